theorem sw_in {ts : List Nat} {i t : Nat} {a lo hi : Int} (k : Nat) (ht : ts[i]? = some t) (ha : a = lo + i) (hk : ts.length = k) (hh : hi = lo + k - 1) : ¬ (a < lo ∨ hi < a) := by
  have := (List.getElem?_eq_some_iff.mp ht).1
  omega
theorem sw_at {α : Type} {L : List (Option α)} {a lo : Int} {i : Nat} {r : Option α} (ha : a = lo + i) (h : List.getD L (a - lo).toNat none = r) : List.getD L i none = r := by
  rw [ha, show (lo + (i : Int) - lo).toNat = i by omega] at h; exact h
theorem g_0 : Cond.constant RJ6 265 (1431655765) ∈ wsG := inG 424 (by decide +kernel) (by decide +kernel)
theorem g_1 : Cond.constant RJ6 266 (858993459) ∈ wsG := inG 425 (by decide +kernel) (by decide +kernel)
theorem g_2 : Cond.constant RJ6 267 (252645135) ∈ wsG := inG 426 (by decide +kernel) (by decide +kernel)
theorem g_3 : Cond.methodLink RX0 3 Lib.objectInit ∈ wsG := inG 461 (by decide +kernel) (by decide +kernel)
theorem g_4 : Cond.instanceMethod Lib.objectInit ∈ wsG := inG 21 (by decide +kernel) (by decide +kernel)
theorem g_5 : Cond.code Lib.objectInit ⟨#[0xb1]⟩ 1 none ∈ wsG := inG 22 (by decide +kernel) (by decide +kernel)
theorem g_6 : Cond.fieldLink RX0 9 (cT 0 0).1 (cT 0 0).2.1 (cT 0 0).2.2.1 ∈ wsG := inG 462 (by decide +kernel) (by decide +kernel)
theorem g_7 : Cond.fieldLink RX0 15 (cT 0 1).1 (cT 0 1).2.1 (cT 0 1).2.2.1 ∈ wsG := inG 464 (by decide +kernel) (by decide +kernel)
theorem g_8 : Cond.fieldLink RX0 18 (cT 0 2).1 (cT 0 2).2.1 (cT 0 2).2.2.1 ∈ wsG := inG 466 (by decide +kernel) (by decide +kernel)
theorem g_9 : Cond.fieldLink RX0 21 (cT 0 3).1 (cT 0 3).2.1 (cT 0 3).2.2.1 ∈ wsG := inG 468 (by decide +kernel) (by decide +kernel)
theorem g_10 : Cond.fieldLink RX0 25 (cT 0 4).1 (cT 0 4).2.1 (cT 0 4).2.2.1 ∈ wsG := inG 470 (by decide +kernel) (by decide +kernel)
theorem g_11 : Cond.fieldLink RX0 28 (cT 0 5).1 (cT 0 5).2.1 (cT 0 5).2.2.1 ∈ wsG := inG 473 (by decide +kernel) (by decide +kernel)
theorem g_12 : Cond.fieldLink RX0 31 (cT 0 6).1 (cT 0 6).2.1 (cT 0 6).2.2.1 ∈ wsG := inG 476 (by decide +kernel) (by decide +kernel)
theorem inl_0 : ∀ w ∈ u_ws (cR 0) (cT 0) (cN 0), w ∈ wsG := inL [478, 480, 482, 484, 486, 488, 490] (by decide +kernel) (by decide +kernel)
theorem g_13 : Cond.methodLink RX1 1 Lib.objectInit ∈ wsG := inG 762 (by decide +kernel) (by decide +kernel)
theorem g_14 : Cond.fieldLink RX1 7 (cT 1 0).1 (cT 1 0).2.1 (cT 1 0).2.2.1 ∈ wsG := inG 763 (by decide +kernel) (by decide +kernel)
theorem g_15 : Cond.fieldLink RX1 13 (cT 1 1).1 (cT 1 1).2.1 (cT 1 1).2.2.1 ∈ wsG := inG 765 (by decide +kernel) (by decide +kernel)
theorem inl_1 : ∀ w ∈ u_ws (cR 1) (cT 1) (cN 1), w ∈ wsG := inL [767, 769] (by decide +kernel) (by decide +kernel)
theorem g_16 : Cond.methodLink RX2 1 Lib.objectInit ∈ wsG := inG 106 (by decide +kernel) (by decide +kernel)
theorem g_17 : Cond.fieldLink RX2 7 (cT 2 0).1 (cT 2 0).2.1 (cT 2 0).2.2.1 ∈ wsG := inG 107 (by decide +kernel) (by decide +kernel)
theorem g_18 : Cond.fieldLink RX2 13 (cT 2 1).1 (cT 2 1).2.1 (cT 2 1).2.2.1 ∈ wsG := inG 108 (by decide +kernel) (by decide +kernel)
theorem inl_2 : ∀ w ∈ u_ws (cR 2) (cT 2) (cN 2), w ∈ wsG := inL [113, 115, 117, 119, 121] (by decide +kernel) (by decide +kernel)
theorem g_19 : Cond.fieldLink RX2 16 (cT 2 2).1 (cT 2 2).2.1 (cT 2 2).2.2.1 ∈ wsG := inG 110 (by decide +kernel) (by decide +kernel)
theorem g_20 : Cond.fieldLink RX2 19 (cT 2 3).1 (cT 2 3).2.1 (cT 2 3).2.2.1 ∈ wsG := inG 111 (by decide +kernel) (by decide +kernel)
theorem g_21 : Cond.fieldLink RX2 22 (cT 2 4).1 (cT 2 4).2.1 (cT 2 4).2.2.1 ∈ wsG := inG 112 (by decide +kernel) (by decide +kernel)
theorem g_22 : Cond.methodLink RX3 3 Lib.objectInit ∈ wsG := inG 28 (by decide +kernel) (by decide +kernel)
theorem g_23 : Cond.classLink RX3 9 (aC 6) ∈ wsG := inG 29 (by decide +kernel) (by decide +kernel)
theorem g_24 : Cond.fieldLink RX3 11 (cT 3 0).1 (cT 3 0).2.1 (cT 3 0).2.2.1 ∈ wsG := inG 33 (by decide +kernel) (by decide +kernel)
theorem g_25 : Cond.classLink RX3 17 (aC 3) ∈ wsG := inG 31 (by decide +kernel) (by decide +kernel)
theorem g_26 : Cond.fieldLink RX3 19 (cT 3 2).1 (cT 3 2).2.1 (cT 3 2).2.2.1 ∈ wsG := inG 37 (by decide +kernel) (by decide +kernel)
theorem g_27 : Cond.arrayClass (aty 0) ∈ wsG := inG 55 (by decide +kernel) (by decide +kernel)
theorem g_28 : Cond.fieldLink RX3 23 (cT 3 4).1 (cT 3 4).2.1 (cT 3 4).2.2.1 ∈ wsG := inG 40 (by decide +kernel) (by decide +kernel)
theorem inl_3 : ∀ w ∈ u_ws (cR 3) (cT 3) (cN 3), w ∈ wsG := inL [42, 44, 46, 48, 50, 52] (by decide +kernel) (by decide +kernel)
theorem g_29 : Cond.fieldLink RX3 27 (cT 3 1).1 (cT 3 1).2.1 (cT 3 1).2.2.1 ∈ wsG := inG 35 (by decide +kernel) (by decide +kernel)
theorem g_30 : Cond.fieldLink RX3 31 (cT 3 3).1 (cT 3 3).2.1 (cT 3 3).2.2.1 ∈ wsG := inG 38 (by decide +kernel) (by decide +kernel)
theorem g_31 : Cond.fieldLink RX3 55 (cT 3 5).1 (cT 3 5).2.1 (cT 3 5).2.2.1 ∈ wsG := inG 41 (by decide +kernel) (by decide +kernel)
theorem g_32 : Cond.fieldLink RX3 38 (cT 5 2).1 (cT 5 2).2.1 (cT 5 2).2.2.1 ∈ wsG := inG 175 (by decide +kernel) (by decide +kernel)
theorem g_33 : Cond.fieldLink RX3 45 (cT 5 12).1 (cT 5 12).2.1 (cT 5 12).2.2.1 ∈ wsG := inG 193 (by decide +kernel) (by decide +kernel)
theorem inl_5 : ∀ w ∈ u_ws (cR 5) (cT 5) (cN 5), w ∈ wsG := inL [194, 196, 198, 200, 202, 204, 206, 208, 210, 212, 214, 216, 218] (by decide +kernel) (by decide +kernel)
theorem g_34 : Cond.code yX3_addStep cX3_addStep 2 (some .int) ∈ wsG := inG 229 (by decide +kernel) (by decide +kernel)
theorem g_35 : Cond.initialized RX3 ∈ wsG := inG 2 (by decide +kernel) (by decide +kernel)
theorem g_36 : Cond.methodLink RX3 41 yX3_addStep ∈ wsG := inG 226 (by decide +kernel) (by decide +kernel)
theorem g_37 : Cond.instanceMethod yX3_addStep ∈ wsG := inG 228 (by decide +kernel) (by decide +kernel)
theorem g_38 : Cond.selects RX3 yX3_addStep yX3_addStep ∈ wsG := inS 0 (by decide +kernel) (by decide +kernel)
theorem g_39 : Cond.code yX3_questionsAreFull cX3_questionsAreFull 1 (some .boolean) ∈ wsG := inG 160 (by decide +kernel) (by decide +kernel)
theorem g_40 : Cond.methodLink RX3 34 yX3_questionsAreFull ∈ wsG := inG 225 (by decide +kernel) (by decide +kernel)
theorem g_41 : Cond.instanceMethod yX3_questionsAreFull ∈ wsG := inG 158 (by decide +kernel) (by decide +kernel)
theorem g_42 : Cond.selects RX3 yX3_questionsAreFull yX3_questionsAreFull ∈ wsG := inG 159 (by decide +kernel) (by decide +kernel)
theorem g_43 : Cond.fieldLink RX3 48 (cT 0 5).1 (cT 0 5).2.1 (cT 0 5).2.2.1 ∈ wsG := inG 474 (by decide +kernel) (by decide +kernel)
theorem g_44 : Cond.code yX3_conditionsAreFull cX3_conditionsAreFull 2 (some .boolean) ∈ wsG := inG 455 (by decide +kernel) (by decide +kernel)
theorem g_45 : Cond.methodLink RX3 51 yX3_conditionsAreFull ∈ wsG := inG 497 (by decide +kernel) (by decide +kernel)
theorem g_46 : Cond.instanceMethod yX3_conditionsAreFull ∈ wsG := inG 453 (by decide +kernel) (by decide +kernel)
theorem g_47 : Cond.selects RX3 yX3_conditionsAreFull yX3_conditionsAreFull ∈ wsG := inG 454 (by decide +kernel) (by decide +kernel)
theorem g_48 : Cond.fieldLink RX3 58 (cT 5 11).1 (cT 5 11).2.1 (cT 5 11).2.2.1 ∈ wsG := inG 191 (by decide +kernel) (by decide +kernel)
theorem g_49 : Cond.methodLink RX8 183 Lib.Math.max.name ∈ wsG := inG 237 (by decide +kernel) (by decide +kernel)
theorem g_50 : Cond.static Lib.Math.max.name ∈ wsG := inG 238 (by decide +kernel) (by decide +kernel)
theorem g_51 : Cond.initialized "java/lang/Math" ∈ wsG := inG 7 (by decide +kernel) (by decide +kernel)
theorem g_52 : Cond.code Lib.Math.max.name Lib.Math.max.code 2 (some .int) ∈ wsG := inG 239 (by decide +kernel) (by decide +kernel)
theorem g_53 : Cond.fieldLink RX6 9 (cT 6 0).1 (cT 6 0).2.1 (cT 6 0).2.2.1 ∈ wsG := inG 318 (by decide +kernel) (by decide +kernel)
theorem g_54 : Cond.code yX8_spot cX8_spot 2 (some .int) ∈ wsG := inG 236 (by decide +kernel) (by decide +kernel)
theorem g_55 : Cond.initialized RX8 ∈ wsG := inG 1 (by decide +kernel) (by decide +kernel)
theorem g_56 : Cond.static yX8_spot ∈ wsG := inG 235 (by decide +kernel) (by decide +kernel)
theorem inl_6 : ∀ w ∈ u_ws (cR 6) (cT 6) (cN 6), w ∈ wsG := inL [326, 328] (by decide +kernel) (by decide +kernel)
theorem g_57 : Cond.code yX6_persons cX6_persons 2 (some .int) ∈ wsG := inG 363 (by decide +kernel) (by decide +kernel)
theorem g_58 : Cond.initialized RX6 ∈ wsG := inG 9 (by decide +kernel) (by decide +kernel)
theorem g_59 : Cond.methodLink RX8 188 yX6_persons ∈ wsG := inG 360 (by decide +kernel) (by decide +kernel)
theorem g_60 : Cond.instanceMethod yX6_persons ∈ wsG := inG 361 (by decide +kernel) (by decide +kernel)
theorem g_61 : Cond.selects RX6 yX6_persons yX6_persons ∈ wsG := inG 362 (by decide +kernel) (by decide +kernel)
theorem g_62 : Cond.fieldLink RX5 44 (cT 5 9).1 (cT 5 9).2.1 (cT 5 9).2.2.1 ∈ wsG := inG 186 (by decide +kernel) (by decide +kernel)
theorem g_63 : Cond.fieldLink RX5 28 (cT 5 6).1 (cT 5 6).2.1 (cT 5 6).2.2.1 ∈ wsG := inG 182 (by decide +kernel) (by decide +kernel)
theorem g_64 : Cond.fieldLink RX5 32 (cT 5 7).1 (cT 5 7).2.1 (cT 5 7).2.2.1 ∈ wsG := inG 183 (by decide +kernel) (by decide +kernel)
theorem g_65 : Cond.fieldLink RX6 15 (cT 6 1).1 (cT 6 1).2.1 (cT 6 1).2.2.1 ∈ wsG := inG 322 (by decide +kernel) (by decide +kernel)
theorem g_66 : Cond.fieldLink RX3 106 (cT 5 1).1 (cT 5 1).2.1 (cT 5 1).2.2.1 ∈ wsG := inG 172 (by decide +kernel) (by decide +kernel)
theorem g_67 : Cond.fieldLink RX3 92 (cT 5 3).1 (cT 5 3).2.1 (cT 5 3).2.2.1 ∈ wsG := inG 177 (by decide +kernel) (by decide +kernel)
theorem g_68 : Cond.fieldLink RX3 113 (cT 6 0).1 (cT 6 0).2.1 (cT 6 0).2.2.1 ∈ wsG := inG 320 (by decide +kernel) (by decide +kernel)
theorem g_69 : Cond.fieldLink RX3 121 (cT 6 1).1 (cT 6 1).2.1 (cT 6 1).2.2.1 ∈ wsG := inG 324 (by decide +kernel) (by decide +kernel)
theorem g_70 : Cond.fieldLink RX3 128 (cT 5 8).1 (cT 5 8).2.1 (cT 5 8).2.2.1 ∈ wsG := inG 185 (by decide +kernel) (by decide +kernel)
theorem g_71 : Cond.code yX6_put cX6_put 4 none ∈ wsG := inG 243 (by decide +kernel) (by decide +kernel)
theorem g_72 : Cond.methodLink RX3 100 yX6_put ∈ wsG := inG 415 (by decide +kernel) (by decide +kernel)
theorem g_73 : Cond.instanceMethod yX6_put ∈ wsG := inG 241 (by decide +kernel) (by decide +kernel)
theorem g_74 : Cond.selects RX6 yX6_put yX6_put ∈ wsG := inG 242 (by decide +kernel) (by decide +kernel)
theorem g_75 : Cond.code yX6_lack cX6_lack 3 none ∈ wsG := inG 381 (by decide +kernel) (by decide +kernel)
theorem g_76 : Cond.methodLink RX3 124 yX6_lack ∈ wsG := inG 414 (by decide +kernel) (by decide +kernel)
theorem g_77 : Cond.instanceMethod yX6_lack ∈ wsG := inG 379 (by decide +kernel) (by decide +kernel)
theorem g_78 : Cond.selects RX6 yX6_lack yX6_lack ∈ wsG := inG 380 (by decide +kernel) (by decide +kernel)
theorem g_79 : Cond.code yX5_rowAround cX5_rowAround 4 (some .int) ∈ wsG := inG 413 (by decide +kernel) (by decide +kernel)
theorem g_80 : Cond.initialized RX5 ∈ wsG := inG 6 (by decide +kernel) (by decide +kernel)
theorem g_81 : Cond.methodLink RX3 117 yX5_rowAround ∈ wsG := inG 410 (by decide +kernel) (by decide +kernel)
theorem g_82 : Cond.instanceMethod yX5_rowAround ∈ wsG := inG 411 (by decide +kernel) (by decide +kernel)
theorem g_83 : Cond.selects RX5 yX5_rowAround yX5_rowAround ∈ wsG := inG 412 (by decide +kernel) (by decide +kernel)
theorem g_84 : Cond.code yX8_placesOf cX8_placesOf 2 (some .int) ∈ wsG := inG 408 (by decide +kernel) (by decide +kernel)
theorem g_85 : Cond.static yX8_placesOf ∈ wsG := inG 407 (by decide +kernel) (by decide +kernel)
theorem g_86 : Cond.fieldLink RX3 134 (cT 5 0).1 (cT 5 0).2.1 (cT 5 0).2.2.1 ∈ wsG := inG 169 (by decide +kernel) (by decide +kernel)
theorem g_87 : Cond.methodLink RX3 131 yX6_persons ∈ wsG := inG 420 (by decide +kernel) (by decide +kernel)
theorem g_88 : Cond.fieldLink RX3 74 (cT 4 0).1 (cT 4 0).2.1 (cT 4 0).2.2.1 ∈ wsG := inG 333 (by decide +kernel) (by decide +kernel)
theorem g_89 : Cond.fieldLink RX3 89 (cT 4 1).1 (cT 4 1).2.1 (cT 4 1).2.2.1 ∈ wsG := inG 335 (by decide +kernel) (by decide +kernel)
theorem g_90 : Cond.code yJ6_bitCount_0f7a4 cJ6_bitCount_0f7a4 1 (some .int) ∈ wsG := inG 423 (by decide +kernel) (by decide +kernel)
theorem g_91 : Cond.initialized RJ6 ∈ wsG := inG 11 (by decide +kernel) (by decide +kernel)
theorem g_92 : Cond.static yJ6_bitCount_0f7a4 ∈ wsG := inG 422 (by decide +kernel) (by decide +kernel)
theorem g_93 : Cond.methodLink RX3 95 yJ6_bitCount_0f7a4 ∈ wsG := inG 421 (by decide +kernel) (by decide +kernel)
theorem inl_4 : ∀ w ∈ u_ws (cR 4) (cT 4) (cN 4), w ∈ wsG := inL [340, 342, 344, 346] (by decide +kernel) (by decide +kernel)
theorem g_94 : Cond.code yX3_makeSum cX3_makeSum 10 none ∈ wsG := inG 419 (by decide +kernel) (by decide +kernel)
theorem g_95 : Cond.methodLink RX3 82 yX3_makeSum ∈ wsG := inG 416 (by decide +kernel) (by decide +kernel)
theorem g_96 : Cond.instanceMethod yX3_makeSum ∈ wsG := inG 418 (by decide +kernel) (by decide +kernel)
theorem g_97 : Cond.selects RX3 yX3_makeSum yX3_makeSum ∈ wsG := inS 7 (by decide +kernel) (by decide +kernel)
theorem g_98 : Cond.code yX3_makeMapped cX3_makeMapped 9 none ∈ wsG := inG 405 (by decide +kernel) (by decide +kernel)
theorem g_99 : Cond.methodLink RX3 78 yX3_makeMapped ∈ wsG := inG 402 (by decide +kernel) (by decide +kernel)
theorem g_100 : Cond.instanceMethod yX3_makeMapped ∈ wsG := inG 404 (by decide +kernel) (by decide +kernel)
theorem g_101 : Cond.selects RX3 yX3_makeMapped yX3_makeMapped ∈ wsG := inS 6 (by decide +kernel) (by decide +kernel)
theorem g_102 : Cond.fieldLink RX3 137 (cT 0 4).1 (cT 0 4).2.1 (cT 0 4).2.2.1 ∈ wsG := inG 472 (by decide +kernel) (by decide +kernel)
theorem g_103 : Cond.fieldLink RX3 143 (cT 0 1).1 (cT 0 1).2.1 (cT 0 1).2.2.1 ∈ wsG := inG 465 (by decide +kernel) (by decide +kernel)
theorem g_104 : Cond.code yX0_fits cX0_fits 5 (some .boolean) ∈ wsG := inG 442 (by decide +kernel) (by decide +kernel)
theorem g_105 : Cond.initialized RX0 ∈ wsG := inG 12 (by decide +kernel) (by decide +kernel)
theorem g_106 : Cond.methodLink RX3 161 yX0_fits ∈ wsG := inG 439 (by decide +kernel) (by decide +kernel)
theorem g_107 : Cond.instanceMethod yX0_fits ∈ wsG := inG 440 (by decide +kernel) (by decide +kernel)
theorem g_108 : Cond.selects RX0 yX0_fits yX0_fits ∈ wsG := inG 441 (by decide +kernel) (by decide +kernel)
theorem g_109 : Cond.fieldLink RX3 140 (cT 0 0).1 (cT 0 0).2.1 (cT 0 0).2.2.1 ∈ wsG := inG 463 (by decide +kernel) (by decide +kernel)
theorem g_110 : Cond.code yX3_bitsOfAsk cX3_bitsOfAsk 8 (some .int) ∈ wsG := inG 438 (by decide +kernel) (by decide +kernel)
theorem g_111 : Cond.methodLink RX3 157 yX3_bitsOfAsk ∈ wsG := inG 435 (by decide +kernel) (by decide +kernel)
theorem g_112 : Cond.instanceMethod yX3_bitsOfAsk ∈ wsG := inG 437 (by decide +kernel) (by decide +kernel)
theorem g_113 : Cond.selects RX3 yX3_bitsOfAsk yX3_bitsOfAsk ∈ wsG := inS 10 (by decide +kernel) (by decide +kernel)
theorem g_114 : Cond.fieldLink RX3 150 (cT 0 2).1 (cT 0 2).2.1 (cT 0 2).2.2.1 ∈ wsG := inG 467 (by decide +kernel) (by decide +kernel)
theorem g_115 : Cond.code yX3_spread cX3_spread 4 (some .int) ∈ wsG := inG 434 (by decide +kernel) (by decide +kernel)
theorem g_116 : Cond.methodLink RX3 146 yX3_spread ∈ wsG := inG 431 (by decide +kernel) (by decide +kernel)
theorem g_117 : Cond.instanceMethod yX3_spread ∈ wsG := inG 433 (by decide +kernel) (by decide +kernel)
theorem g_118 : Cond.selects RX3 yX3_spread yX3_spread ∈ wsG := inS 9 (by decide +kernel) (by decide +kernel)
theorem g_119 : Cond.fieldLink RX3 153 (cT 0 3).1 (cT 0 3).2.1 (cT 0 3).2.2.1 ∈ wsG := inG 469 (by decide +kernel) (by decide +kernel)
theorem g_120 : Cond.fieldLink RX3 62 (cT 4 2).1 (cT 4 2).2.1 (cT 4 2).2.2.1 ∈ wsG := inG 337 (by decide +kernel) (by decide +kernel)
theorem g_121 : Cond.code yX3_makeTruths cX3_makeTruths 5 none ∈ wsG := inG 430 (by decide +kernel) (by decide +kernel)
theorem g_122 : Cond.methodLink RX3 71 yX3_makeTruths ∈ wsG := inG 427 (by decide +kernel) (by decide +kernel)
theorem g_123 : Cond.instanceMethod yX3_makeTruths ∈ wsG := inG 429 (by decide +kernel) (by decide +kernel)
theorem g_124 : Cond.selects RX3 yX3_makeTruths yX3_makeTruths ∈ wsG := inS 8 (by decide +kernel) (by decide +kernel)
theorem g_125 : Cond.code yX3_makeAnswers cX3_makeAnswers 4 none ∈ wsG := inG 401 (by decide +kernel) (by decide +kernel)
theorem g_126 : Cond.methodLink RX3 67 yX3_makeAnswers ∈ wsG := inG 398 (by decide +kernel) (by decide +kernel)
theorem g_127 : Cond.instanceMethod yX3_makeAnswers ∈ wsG := inG 400 (by decide +kernel) (by decide +kernel)
theorem g_128 : Cond.selects RX3 yX3_makeAnswers yX3_makeAnswers ∈ wsG := inS 5 (by decide +kernel) (by decide +kernel)
theorem g_129 : Cond.methodLink RX6 3 Lib.objectInit ∈ wsG := inG 314 (by decide +kernel) (by decide +kernel)
theorem g_130 : Cond.arrayClass (aty 1) ∈ wsG := inG 100 (by decide +kernel) (by decide +kernel)
theorem g_131 : Cond.code yJ7_fill_53178 cJ7_fill_53178 4 none ∈ wsG := inG 317 (by decide +kernel) (by decide +kernel)
theorem g_132 : Cond.initialized RJ7 ∈ wsG := inG 10 (by decide +kernel) (by decide +kernel)
theorem g_133 : Cond.static yJ7_fill_53178 ∈ wsG := inG 316 (by decide +kernel) (by decide +kernel)
theorem g_134 : Cond.methodLink RX6 19 yJ7_fill_53178 ∈ wsG := inG 315 (by decide +kernel) (by decide +kernel)
theorem g_135 : Cond.methodLink RX4 3 Lib.objectInit ∈ wsG := inG 308 (by decide +kernel) (by decide +kernel)
theorem g_136 : Cond.classLink RX4 9 (cR 6) ∈ wsG := inG 309 (by decide +kernel) (by decide +kernel)
theorem g_137 : Cond.instantiable (cR 6) (cN 6) ∈ wsG := inG 310 (by decide +kernel) (by decide +kernel)
theorem g_138 : Cond.initialized (cR 6) ∈ wsG := inG 9 (by decide +kernel) (by decide +kernel)
theorem g_139 : Cond.fieldLink RX4 12 (cT 4 0).1 (cT 4 0).2.1 (cT 4 0).2.2.1 ∈ wsG := inG 331 (by decide +kernel) (by decide +kernel)
theorem g_140 : Cond.fieldLink RX4 18 (cT 4 1).1 (cT 4 1).2.1 (cT 4 1).2.2.1 ∈ wsG := inG 334 (by decide +kernel) (by decide +kernel)
theorem g_141 : Cond.fieldLink RX4 22 (cT 4 3).1 (cT 4 3).2.1 (cT 4 3).2.2.1 ∈ wsG := inG 338 (by decide +kernel) (by decide +kernel)
theorem g_142 : Cond.code yX6_init cX6_init 1 none ∈ wsG := inG 313 (by decide +kernel) (by decide +kernel)
theorem g_143 : Cond.instanceMethod yX6_init ∈ wsG := inG 312 (by decide +kernel) (by decide +kernel)
theorem g_144 : Cond.methodLink RX4 11 yX6_init ∈ wsG := inG 311 (by decide +kernel) (by decide +kernel)
theorem g_145 : Cond.fieldLink RX4 26 (cT 4 2).1 (cT 4 2).2.1 (cT 4 2).2.2.1 ∈ wsG := inG 336 (by decide +kernel) (by decide +kernel)
theorem g_146 : Cond.methodLink RX4 29 Lib.Math.min.name ∈ wsG := inG 277 (by decide +kernel) (by decide +kernel)
theorem g_147 : Cond.static Lib.Math.min.name ∈ wsG := inG 278 (by decide +kernel) (by decide +kernel)
theorem g_148 : Cond.code Lib.Math.min.name Lib.Math.min.code 2 (some .int) ∈ wsG := inG 279 (by decide +kernel) (by decide +kernel)
theorem g_149 : Cond.methodLink RX5 3 Lib.objectInit ∈ wsG := inG 166 (by decide +kernel) (by decide +kernel)
theorem g_150 : Cond.fieldLink RX5 9 (cT 5 0).1 (cT 5 0).2.1 (cT 5 0).2.2.1 ∈ wsG := inG 167 (by decide +kernel) (by decide +kernel)
theorem g_151 : Cond.fieldLink RX5 15 (cT 5 1).1 (cT 5 1).2.1 (cT 5 1).2.2.1 ∈ wsG := inG 170 (by decide +kernel) (by decide +kernel)
theorem g_152 : Cond.fieldLink RX5 18 (cT 5 2).1 (cT 5 2).2.1 (cT 5 2).2.2.1 ∈ wsG := inG 173 (by decide +kernel) (by decide +kernel)
theorem g_153 : Cond.fieldLink RX5 21 (cT 5 3).1 (cT 5 3).2.1 (cT 5 3).2.2.1 ∈ wsG := inG 176 (by decide +kernel) (by decide +kernel)
theorem g_154 : Cond.fieldLink RX5 24 (cT 5 4).1 (cT 5 4).2.1 (cT 5 4).2.2.1 ∈ wsG := inG 178 (by decide +kernel) (by decide +kernel)
theorem g_155 : Cond.fieldLink RX5 35 (cT 5 8).1 (cT 5 8).2.1 (cT 5 8).2.2.1 ∈ wsG := inG 184 (by decide +kernel) (by decide +kernel)
theorem g_156 : Cond.fieldLink RX5 38 (cT 5 10).1 (cT 5 10).2.1 (cT 5 10).2.2.1 ∈ wsG := inG 188 (by decide +kernel) (by decide +kernel)
theorem g_157 : Cond.fieldLink RX5 41 (cT 5 5).1 (cT 5 5).2.1 (cT 5 5).2.2.1 ∈ wsG := inG 180 (by decide +kernel) (by decide +kernel)
theorem g_158 : Cond.code yX5_addCode cX5_addCode 2 none ∈ wsG := inG 258 (by decide +kernel) (by decide +kernel)
theorem g_159 : Cond.methodLink RX5 51 yX5_addCode ∈ wsG := inG 272 (by decide +kernel) (by decide +kernel)
theorem g_160 : Cond.instanceMethod yX5_addCode ∈ wsG := inG 256 (by decide +kernel) (by decide +kernel)
theorem g_161 : Cond.selects RX5 yX5_addCode yX5_addCode ∈ wsG := inG 257 (by decide +kernel) (by decide +kernel)
theorem g_162 : Cond.code yX5_codeIndex cX5_codeIndex 4 (some .int) ∈ wsG := inG 254 (by decide +kernel) (by decide +kernel)
theorem g_163 : Cond.methodLink RX5 47 yX5_codeIndex ∈ wsG := inG 271 (by decide +kernel) (by decide +kernel)
theorem g_164 : Cond.instanceMethod yX5_codeIndex ∈ wsG := inG 252 (by decide +kernel) (by decide +kernel)
theorem g_165 : Cond.selects RX5 yX5_codeIndex yX5_codeIndex ∈ wsG := inG 253 (by decide +kernel) (by decide +kernel)
theorem g_166 : Cond.constantLong RX5 63 (5) ∈ wsG := inG 373 (by decide +kernel) (by decide +kernel)
theorem g_167 : Cond.constantLong RX5 55 (-1000000000000000) ∈ wsG := inG 369 (by decide +kernel) (by decide +kernel)
theorem g_168 : Cond.constantLong RX5 57 (1000000000000000) ∈ wsG := inG 370 (by decide +kernel) (by decide +kernel)
theorem g_169 : Cond.constantLong RX5 59 (-30000) ∈ wsG := inG 371 (by decide +kernel) (by decide +kernel)
theorem g_170 : Cond.constantLong RX5 61 (30000) ∈ wsG := inG 372 (by decide +kernel) (by decide +kernel)
theorem g_171 : Cond.fieldLink RX5 65 (cT 6 1).1 (cT 6 1).2.1 (cT 6 1).2.2.1 ∈ wsG := inG 323 (by decide +kernel) (by decide +kernel)
theorem g_172 : Cond.fieldLink RX5 70 (cT 6 0).1 (cT 6 0).2.1 (cT 6 0).2.2.1 ∈ wsG := inG 319 (by decide +kernel) (by decide +kernel)
theorem g_173 : Cond.methodLink RX6 25 Lib.Math.max.name ∈ wsG := inG 734 (by decide +kernel) (by decide +kernel)
theorem g_174 : Cond.methodLink RX6 31 Lib.Math.min.name ∈ wsG := inG 735 (by decide +kernel) (by decide +kernel)
theorem g_175 : Cond.code yJ7_copyOf_59c91 cJ7_copyOf_59c91 3 (some (.array .int)) ∈ wsG := inG 752 (by decide +kernel) (by decide +kernel)
theorem g_176 : Cond.static yJ7_copyOf_59c91 ∈ wsG := inG 751 (by decide +kernel) (by decide +kernel)
theorem g_177 : Cond.methodLink RX6 38 yJ7_copyOf_59c91 ∈ wsG := inG 750 (by decide +kernel) (by decide +kernel)
theorem g_178 : Cond.code yJ7_copyOf_c38d5 cJ7_copyOf_c38d5 3 (some (.array .long)) ∈ wsG := inG 738 (by decide +kernel) (by decide +kernel)
theorem g_179 : Cond.static yJ7_copyOf_c38d5 ∈ wsG := inG 737 (by decide +kernel) (by decide +kernel)
theorem g_180 : Cond.methodLink RX6 34 yJ7_copyOf_c38d5 ∈ wsG := inG 736 (by decide +kernel) (by decide +kernel)
theorem g_181 : Cond.methodLink RX6 44 yX6_put ∈ wsG := inG 817 (by decide +kernel) (by decide +kernel)
theorem g_182 : Cond.methodLink RX7 3 Lib.objectInit ∈ wsG := inG 65 (by decide +kernel) (by decide +kernel)
theorem g_183 : Cond.fieldLink RX7 9 (cT 7 3).1 (cT 7 3).2.1 (cT 7 3).2.2.1 ∈ wsG := inG 71 (by decide +kernel) (by decide +kernel)
theorem g_184 : Cond.fieldLink RX7 15 (cT 7 4).1 (cT 7 4).2.1 (cT 7 4).2.2.1 ∈ wsG := inG 73 (by decide +kernel) (by decide +kernel)
theorem g_185 : Cond.fieldLink RX7 19 (cT 7 5).1 (cT 7 5).2.1 (cT 7 5).2.2.1 ∈ wsG := inG 75 (by decide +kernel) (by decide +kernel)
theorem g_186 : Cond.fieldLink RX7 22 (cT 7 6).1 (cT 7 6).2.1 (cT 7 6).2.2.1 ∈ wsG := inG 77 (by decide +kernel) (by decide +kernel)
theorem g_187 : Cond.fieldLink RX7 25 (cT 7 7).1 (cT 7 7).2.1 (cT 7 7).2.2.1 ∈ wsG := inG 78 (by decide +kernel) (by decide +kernel)
theorem inl_7 : ∀ w ∈ u_ws (cR 7) (cT 7) (cN 7), w ∈ wsG := inL [81, 83, 85, 87, 89, 91, 93, 95, 97] (by decide +kernel) (by decide +kernel)
theorem g_188 : Cond.fieldLink RX7 68 (cT 7 8).1 (cT 7 8).2.1 (cT 7 8).2.2.1 ∈ wsG := inG 79 (by decide +kernel) (by decide +kernel)
theorem g_189 : Cond.methodLink RX7 39 yJ7_fill_53178 ∈ wsG := inG 569 (by decide +kernel) (by decide +kernel)
theorem g_190 : Cond.fieldLink RX7 28 (cT 7 0).1 (cT 7 0).2.1 (cT 7 0).2.2.1 ∈ wsG := inG 66 (by decide +kernel) (by decide +kernel)
theorem g_191 : Cond.fieldLink RX7 32 (cT 7 1).1 (cT 7 1).2.1 (cT 7 1).2.2.1 ∈ wsG := inG 68 (by decide +kernel) (by decide +kernel)
theorem g_192 : Cond.fieldLink RX7 35 (cT 7 2).1 (cT 7 2).2.1 (cT 7 2).2.2.1 ∈ wsG := inG 70 (by decide +kernel) (by decide +kernel)
theorem g_193 : Cond.code yX7_holdNone cX7_holdNone 1 none ∈ wsG := inG 576 (by decide +kernel) (by decide +kernel)
theorem g_194 : Cond.initialized RX7 ∈ wsG := inG 3 (by decide +kernel) (by decide +kernel)
theorem g_195 : Cond.methodLink RX7 48 yX7_holdNone ∈ wsG := inG 573 (by decide +kernel) (by decide +kernel)
theorem g_196 : Cond.instanceMethod yX7_holdNone ∈ wsG := inG 575 (by decide +kernel) (by decide +kernel)
theorem g_197 : Cond.selects RX7 yX7_holdNone yX7_holdNone ∈ wsG := inS 13 (by decide +kernel) (by decide +kernel)
theorem g_198 : Cond.code yJ7_fill_d0a16 cJ7_fill_d0a16 5 none ∈ wsG := inG 572 (by decide +kernel) (by decide +kernel)
theorem g_199 : Cond.static yJ7_fill_d0a16 ∈ wsG := inG 571 (by decide +kernel) (by decide +kernel)
theorem g_200 : Cond.methodLink RX7 45 yJ7_fill_d0a16 ∈ wsG := inG 570 (by decide +kernel) (by decide +kernel)
theorem g_201 : Cond.code yX7_at cX7_at 3 (some .int) ∈ wsG := inG 592 (by decide +kernel) (by decide +kernel)
theorem g_202 : Cond.methodLink RX7 55 yX7_at ∈ wsG := inG 589 (by decide +kernel) (by decide +kernel)
theorem g_203 : Cond.instanceMethod yX7_at ∈ wsG := inG 590 (by decide +kernel) (by decide +kernel)
theorem g_204 : Cond.selects RX7 yX7_at yX7_at ∈ wsG := inG 591 (by decide +kernel) (by decide +kernel)
theorem g_205 : Cond.code yX7_hasCell cX7_hasCell 3 (some .boolean) ∈ wsG := inG 588 (by decide +kernel) (by decide +kernel)
theorem g_206 : Cond.methodLink RX7 51 yX7_hasCell ∈ wsG := inG 585 (by decide +kernel) (by decide +kernel)
theorem g_207 : Cond.instanceMethod yX7_hasCell ∈ wsG := inG 586 (by decide +kernel) (by decide +kernel)
theorem g_208 : Cond.selects RX7 yX7_hasCell yX7_hasCell ∈ wsG := inG 587 (by decide +kernel) (by decide +kernel)
theorem g_209 : Cond.constantLong RX7 66 (-1) ∈ wsG := inG 626 (by decide +kernel) (by decide +kernel)
theorem g_210 : Cond.code yX7_cells cX7_cells 1 (some .int) ∈ wsG := inG 596 (by decide +kernel) (by decide +kernel)
theorem g_211 : Cond.methodLink RX7 59 yX7_cells ∈ wsG := inG 621 (by decide +kernel) (by decide +kernel)
theorem g_212 : Cond.instanceMethod yX7_cells ∈ wsG := inG 594 (by decide +kernel) (by decide +kernel)
theorem g_213 : Cond.selects RX7 yX7_cells yX7_cells ∈ wsG := inG 595 (by decide +kernel) (by decide +kernel)
theorem g_214 : Cond.code yX7_giveOneMore cX7_giveOneMore 3 none ∈ wsG := inG 625 (by decide +kernel) (by decide +kernel)
theorem g_215 : Cond.methodLink RX7 63 yX7_giveOneMore ∈ wsG := inG 622 (by decide +kernel) (by decide +kernel)
theorem g_216 : Cond.instanceMethod yX7_giveOneMore ∈ wsG := inG 624 (by decide +kernel) (by decide +kernel)
theorem g_217 : Cond.selects RX7 yX7_giveOneMore yX7_giveOneMore ∈ wsG := inS 14 (by decide +kernel) (by decide +kernel)
theorem g_218 : Cond.code yX7_hold cX7_hold 3 none ∈ wsG := inG 642 (by decide +kernel) (by decide +kernel)
theorem g_219 : Cond.methodLink RX7 71 yX7_hold ∈ wsG := inG 639 (by decide +kernel) (by decide +kernel)
theorem g_220 : Cond.instanceMethod yX7_hold ∈ wsG := inG 641 (by decide +kernel) (by decide +kernel)
theorem g_221 : Cond.selects RX7 yX7_hold yX7_hold ∈ wsG := inS 15 (by decide +kernel) (by decide +kernel)
theorem g_222 : Cond.code yX7_isFree cX7_isFree 7 (some .boolean) ∈ wsG := inG 655 (by decide +kernel) (by decide +kernel)
theorem g_223 : Cond.methodLink RX7 88 yX7_isFree ∈ wsG := inG 652 (by decide +kernel) (by decide +kernel)
theorem g_224 : Cond.instanceMethod yX7_isFree ∈ wsG := inG 654 (by decide +kernel) (by decide +kernel)
theorem g_225 : Cond.selects RX7 yX7_isFree yX7_isFree ∈ wsG := inS 16 (by decide +kernel) (by decide +kernel)
theorem g_226 : Cond.code yX7_isHeld cX7_isHeld 3 (some .boolean) ∈ wsG := inG 607 (by decide +kernel) (by decide +kernel)
theorem g_227 : Cond.methodLink RX7 85 yX7_isHeld ∈ wsG := inG 651 (by decide +kernel) (by decide +kernel)
theorem g_228 : Cond.instanceMethod yX7_isHeld ∈ wsG := inG 605 (by decide +kernel) (by decide +kernel)
theorem g_229 : Cond.selects RX7 yX7_isHeld yX7_isHeld ∈ wsG := inG 606 (by decide +kernel) (by decide +kernel)
theorem g_230 : Cond.code yX7_leastOpen cX7_leastOpen 8 (some .int) ∈ wsG := inG 663 (by decide +kernel) (by decide +kernel)
theorem g_231 : Cond.methodLink RX7 81 yX7_leastOpen ∈ wsG := inG 660 (by decide +kernel) (by decide +kernel)
theorem g_232 : Cond.instanceMethod yX7_leastOpen ∈ wsG := inG 662 (by decide +kernel) (by decide +kernel)
theorem g_233 : Cond.selects RX7 yX7_leastOpen yX7_leastOpen ∈ wsG := inS 18 (by decide +kernel) (by decide +kernel)
theorem g_234 : Cond.code yX7_coverFor cX7_coverFor 4 (some .int) ∈ wsG := inG 659 (by decide +kernel) (by decide +kernel)
theorem g_235 : Cond.methodLink RX7 78 yX7_coverFor ∈ wsG := inG 656 (by decide +kernel) (by decide +kernel)
theorem g_236 : Cond.instanceMethod yX7_coverFor ∈ wsG := inG 658 (by decide +kernel) (by decide +kernel)
theorem g_237 : Cond.selects RX7 yX7_coverFor yX7_coverFor ∈ wsG := inS 17 (by decide +kernel) (by decide +kernel)
theorem g_238 : Cond.code yX7_firstFollowing cX7_firstFollowing 3 (some .int) ∈ wsG := inG 650 (by decide +kernel) (by decide +kernel)
theorem g_239 : Cond.methodLink RX7 75 yX7_firstFollowing ∈ wsG := inG 647 (by decide +kernel) (by decide +kernel)
theorem g_240 : Cond.instanceMethod yX7_firstFollowing ∈ wsG := inG 648 (by decide +kernel) (by decide +kernel)
theorem g_241 : Cond.selects RX7 yX7_firstFollowing yX7_firstFollowing ∈ wsG := inG 649 (by decide +kernel) (by decide +kernel)
theorem g_242 : Cond.methodLink RX8 3 Lib.objectInit ∈ wsG := inG 20 (by decide +kernel) (by decide +kernel)
theorem g_243 : Cond.classLink RX8 9 (cR 3) ∈ wsG := inG 23 (by decide +kernel) (by decide +kernel)
theorem g_244 : Cond.instantiable (cR 3) (cN 3) ∈ wsG := inG 24 (by decide +kernel) (by decide +kernel)
theorem g_245 : Cond.initialized (cR 3) ∈ wsG := inG 2 (by decide +kernel) (by decide +kernel)
theorem g_246 : Cond.fieldLink RX8 12 (cT 8 0).1 (cT 8 0).2.1 (cT 8 0).2.2.1 ∈ wsG := inG 124 (by decide +kernel) (by decide +kernel)
theorem g_247 : Cond.classLink RX8 16 (aC 5) ∈ wsG := inG 56 (by decide +kernel) (by decide +kernel)
theorem g_248 : Cond.fieldLink RX8 18 (cT 8 1).1 (cT 8 1).2.1 (cT 8 1).2.2.1 ∈ wsG := inG 125 (by decide +kernel) (by decide +kernel)
theorem g_249 : Cond.classLink RX8 22 (aC 4) ∈ wsG := inG 58 (by decide +kernel) (by decide +kernel)
theorem g_250 : Cond.fieldLink RX8 24 (cT 8 3).1 (cT 8 3).2.1 (cT 8 3).2.2.1 ∈ wsG := inG 127 (by decide +kernel) (by decide +kernel)
theorem g_251 : Cond.classLink RX8 28 (cR 7) ∈ wsG := inG 60 (by decide +kernel) (by decide +kernel)
theorem g_252 : Cond.instantiable (cR 7) (cN 7) ∈ wsG := inG 61 (by decide +kernel) (by decide +kernel)
theorem g_253 : Cond.initialized (cR 7) ∈ wsG := inG 3 (by decide +kernel) (by decide +kernel)
theorem g_254 : Cond.fieldLink RX8 31 (cT 8 5).1 (cT 8 5).2.1 (cT 8 5).2.2.1 ∈ wsG := inG 129 (by decide +kernel) (by decide +kernel)
theorem g_255 : Cond.classLink RX8 35 (cR 2) ∈ wsG := inG 101 (by decide +kernel) (by decide +kernel)
theorem g_256 : Cond.instantiable (cR 2) (cN 2) ∈ wsG := inG 102 (by decide +kernel) (by decide +kernel)
theorem g_257 : Cond.initialized (cR 2) ∈ wsG := inG 4 (by decide +kernel) (by decide +kernel)
theorem g_258 : Cond.fieldLink RX8 38 (cT 8 6).1 (cT 8 6).2.1 (cT 8 6).2.2.1 ∈ wsG := inG 130 (by decide +kernel) (by decide +kernel)
theorem g_259 : Cond.fieldLink RX8 42 (cT 8 7).1 (cT 8 7).2.1 (cT 8 7).2.2.1 ∈ wsG := inG 131 (by decide +kernel) (by decide +kernel)
theorem inl_8 : ∀ w ∈ u_ws (cR 8) (cT 8) (cN 8), w ∈ wsG := inL [132, 134, 136, 138, 140, 142, 144, 146] (by decide +kernel) (by decide +kernel)
theorem g_260 : Cond.code yX2_init cX2_init 1 none ∈ wsG := inG 105 (by decide +kernel) (by decide +kernel)
theorem g_261 : Cond.initialized RX2 ∈ wsG := inG 4 (by decide +kernel) (by decide +kernel)
theorem g_262 : Cond.instanceMethod yX2_init ∈ wsG := inG 104 (by decide +kernel) (by decide +kernel)
theorem g_263 : Cond.code yX7_init cX7_init 1 none ∈ wsG := inG 64 (by decide +kernel) (by decide +kernel)
theorem g_264 : Cond.instanceMethod yX7_init ∈ wsG := inG 63 (by decide +kernel) (by decide +kernel)
theorem g_265 : Cond.methodLink RX8 30 yX7_init ∈ wsG := inG 62 (by decide +kernel) (by decide +kernel)
theorem g_266 : Cond.code yX3_init cX3_init 1 none ∈ wsG := inG 27 (by decide +kernel) (by decide +kernel)
theorem g_267 : Cond.instanceMethod yX3_init ∈ wsG := inG 26 (by decide +kernel) (by decide +kernel)
theorem g_268 : Cond.methodLink RX8 11 yX3_init ∈ wsG := inG 25 (by decide +kernel) (by decide +kernel)
theorem g_269 : Cond.fieldLink RX8 98 (cT 8 2).1 (cT 8 2).2.1 (cT 8 2).2.2.1 ∈ wsG := inG 126 (by decide +kernel) (by decide +kernel)
theorem g_270 : Cond.fieldLink RX8 126 (cT 4 0).1 (cT 4 0).2.1 (cT 4 0).2.2.1 ∈ wsG := inG 332 (by decide +kernel) (by decide +kernel)
theorem g_271 : Cond.methodLink RX8 134 yX6_put ∈ wsG := inG 240 (by decide +kernel) (by decide +kernel)
theorem g_272 : Cond.methodLink RX8 130 yX8_spot ∈ wsG := inG 234 (by decide +kernel) (by decide +kernel)
theorem g_273 : Cond.classLink RX8 51 (cR 5) ∈ wsG := inG 161 (by decide +kernel) (by decide +kernel)
theorem g_274 : Cond.instantiable (cR 5) (cN 5) ∈ wsG := inG 162 (by decide +kernel) (by decide +kernel)
theorem g_275 : Cond.initialized (cR 5) ∈ wsG := inG 6 (by decide +kernel) (by decide +kernel)
theorem g_276 : Cond.code yX8_emptyEverywhere cX8_emptyEverywhere 3 none ∈ wsG := inG 233 (by decide +kernel) (by decide +kernel)
theorem g_277 : Cond.methodLink RX8 67 yX8_emptyEverywhere ∈ wsG := inG 230 (by decide +kernel) (by decide +kernel)
theorem g_278 : Cond.instanceMethod yX8_emptyEverywhere ∈ wsG := inG 232 (by decide +kernel) (by decide +kernel)
theorem g_279 : Cond.selects RX8 yX8_emptyEverywhere yX8_emptyEverywhere ∈ wsG := inS 1 (by decide +kernel) (by decide +kernel)
theorem g_280 : Cond.code yX3_addQuestion cX3_addQuestion 2 (some .int) ∈ wsG := inG 224 (by decide +kernel) (by decide +kernel)
theorem g_281 : Cond.methodLink RX8 63 yX3_addQuestion ∈ wsG := inG 221 (by decide +kernel) (by decide +kernel)
theorem g_282 : Cond.instanceMethod yX3_addQuestion ∈ wsG := inG 222 (by decide +kernel) (by decide +kernel)
theorem g_283 : Cond.selects RX3 yX3_addQuestion yX3_addQuestion ∈ wsG := inG 223 (by decide +kernel) (by decide +kernel)
theorem g_284 : Cond.code yX5_init cX5_init 6 none ∈ wsG := inG 165 (by decide +kernel) (by decide +kernel)
theorem g_285 : Cond.instanceMethod yX5_init ∈ wsG := inG 164 (by decide +kernel) (by decide +kernel)
theorem g_286 : Cond.methodLink RX8 60 yX5_init ∈ wsG := inG 163 (by decide +kernel) (by decide +kernel)
theorem g_287 : Cond.methodLink RX8 56 yX3_questionsAreFull ∈ wsG := inG 157 (by decide +kernel) (by decide +kernel)
theorem g_288 : Cond.fieldLink RX8 50 (cT 5 0).1 (cT 5 0).2.1 (cT 5 0).2.2.1 ∈ wsG := inG 168 (by decide +kernel) (by decide +kernel)
theorem g_289 : Cond.code yX3_questionOf cX3_questionOf 2 (some (.object "HouseholdVault$Question")) ∈ wsG := inG 156 (by decide +kernel) (by decide +kernel)
theorem g_290 : Cond.methodLink RX8 46 yX3_questionOf ∈ wsG := inG 153 (by decide +kernel) (by decide +kernel)
theorem g_291 : Cond.instanceMethod yX3_questionOf ∈ wsG := inG 154 (by decide +kernel) (by decide +kernel)
theorem g_292 : Cond.selects RX3 yX3_questionOf yX3_questionOf ∈ wsG := inG 155 (by decide +kernel) (by decide +kernel)
theorem g_293 : Cond.fieldLink RX8 75 (cT 5 2).1 (cT 5 2).2.1 (cT 5 2).2.2.1 ∈ wsG := inG 174 (by decide +kernel) (by decide +kernel)
theorem g_294 : Cond.fieldLink RX8 82 (cT 5 5).1 (cT 5 5).2.1 (cT 5 5).2.2.1 ∈ wsG := inG 181 (by decide +kernel) (by decide +kernel)
theorem g_295 : Cond.methodLink RX8 85 yX5_addCode ∈ wsG := inG 255 (by decide +kernel) (by decide +kernel)
theorem g_296 : Cond.methodLink RX8 78 yX5_codeIndex ∈ wsG := inG 251 (by decide +kernel) (by decide +kernel)
theorem g_297 : Cond.code yX8_isCode cX8_isCode 1 (some .boolean) ∈ wsG := inG 250 (by decide +kernel) (by decide +kernel)
theorem g_298 : Cond.static yX8_isCode ∈ wsG := inG 249 (by decide +kernel) (by decide +kernel)
theorem g_299 : Cond.methodLink RX8 71 yX8_isCode ∈ wsG := inG 248 (by decide +kernel) (by decide +kernel)
theorem g_300 : Cond.fieldLink RX8 88 (cT 5 1).1 (cT 5 1).2.1 (cT 5 1).2.2.1 ∈ wsG := inG 171 (by decide +kernel) (by decide +kernel)
theorem g_301 : Cond.fieldLink RX8 91 (cT 5 9).1 (cT 5 9).2.1 (cT 5 9).2.2.1 ∈ wsG := inG 187 (by decide +kernel) (by decide +kernel)
theorem g_302 : Cond.fieldLink RX8 101 (cT 5 12).1 (cT 5 12).2.1 (cT 5 12).2.2.1 ∈ wsG := inG 192 (by decide +kernel) (by decide +kernel)
theorem g_303 : Cond.code yX4_unsettle cX4_unsettle 2 none ∈ wsG := inG 276 (by decide +kernel) (by decide +kernel)
theorem g_304 : Cond.initialized RX4 ∈ wsG := inG 8 (by decide +kernel) (by decide +kernel)
theorem g_305 : Cond.methodLink RX8 104 yX4_unsettle ∈ wsG := inG 273 (by decide +kernel) (by decide +kernel)
theorem g_306 : Cond.instanceMethod yX4_unsettle ∈ wsG := inG 274 (by decide +kernel) (by decide +kernel)
theorem g_307 : Cond.selects RX4 yX4_unsettle yX4_unsettle ∈ wsG := inG 275 (by decide +kernel) (by decide +kernel)
theorem g_308 : Cond.code yX5_addRow cX5_addRow 6 none ∈ wsG := inG 270 (by decide +kernel) (by decide +kernel)
theorem g_309 : Cond.methodLink RX8 94 yX5_addRow ∈ wsG := inG 267 (by decide +kernel) (by decide +kernel)
theorem g_310 : Cond.instanceMethod yX5_addRow ∈ wsG := inG 268 (by decide +kernel) (by decide +kernel)
theorem g_311 : Cond.selects RX5 yX5_addRow yX5_addRow ∈ wsG := inG 269 (by decide +kernel) (by decide +kernel)
theorem g_312 : Cond.fieldLink RX8 111 (cT 0 4).1 (cT 0 4).2.1 (cT 0 4).2.2.1 ∈ wsG := inG 471 (by decide +kernel) (by decide +kernel)
theorem g_313 : Cond.code yX3_conditionOf cX3_conditionOf 2 (some (.object "HouseholdVault$Condition")) ∈ wsG := inG 287 (by decide +kernel) (by decide +kernel)
theorem g_314 : Cond.methodLink RX8 107 yX3_conditionOf ∈ wsG := inG 284 (by decide +kernel) (by decide +kernel)
theorem g_315 : Cond.instanceMethod yX3_conditionOf ∈ wsG := inG 285 (by decide +kernel) (by decide +kernel)
theorem g_316 : Cond.selects RX3 yX3_conditionOf yX3_conditionOf ∈ wsG := inG 286 (by decide +kernel) (by decide +kernel)
theorem g_317 : Cond.fieldLink RX8 116 (cT 5 10).1 (cT 5 10).2.1 (cT 5 10).2.2.1 ∈ wsG := inG 189 (by decide +kernel) (by decide +kernel)
theorem g_318 : Cond.fieldLink RX8 119 (cT 5 11).1 (cT 5 11).2.1 (cT 5 11).2.2.1 ∈ wsG := inG 190 (by decide +kernel) (by decide +kernel)
theorem g_319 : Cond.fieldLink RX8 123 (cT 5 4).1 (cT 5 4).2.1 (cT 5 4).2.2.1 ∈ wsG := inG 179 (by decide +kernel) (by decide +kernel)
theorem g_320 : Cond.classLink RX8 16 (cR 4) ∈ wsG := inG 56 (by decide +kernel) (by decide +kernel)
theorem g_321 : Cond.instantiable (cR 4) (cN 4) ∈ wsG := inG 304 (by decide +kernel) (by decide +kernel)
theorem g_322 : Cond.initialized (cR 4) ∈ wsG := inG 8 (by decide +kernel) (by decide +kernel)
theorem g_323 : Cond.fieldLink RX8 141 (cT 3 1).1 (cT 3 1).2.1 (cT 3 1).2.2.1 ∈ wsG := inG 36 (by decide +kernel) (by decide +kernel)
theorem g_324 : Cond.fieldLink RX8 144 (cT 3 0).1 (cT 3 0).2.1 (cT 3 0).2.2.1 ∈ wsG := inG 34 (by decide +kernel) (by decide +kernel)
theorem g_325 : Cond.code yX4_init cX4_init 1 none ∈ wsG := inG 307 (by decide +kernel) (by decide +kernel)
theorem g_326 : Cond.instanceMethod yX4_init ∈ wsG := inG 306 (by decide +kernel) (by decide +kernel)
theorem g_327 : Cond.methodLink RX8 140 yX4_init ∈ wsG := inG 305 (by decide +kernel) (by decide +kernel)
theorem g_328 : Cond.methodLink RX8 164 yX6_lack ∈ wsG := inG 378 (by decide +kernel) (by decide +kernel)
theorem g_329 : Cond.code yX8_dropPersons cX8_dropPersons 6 none ∈ wsG := inG 377 (by decide +kernel) (by decide +kernel)
theorem g_330 : Cond.methodLink RX8 160 yX8_dropPersons ∈ wsG := inG 374 (by decide +kernel) (by decide +kernel)
theorem g_331 : Cond.instanceMethod yX8_dropPersons ∈ wsG := inG 376 (by decide +kernel) (by decide +kernel)
theorem g_332 : Cond.selects RX8 yX8_dropPersons yX8_dropPersons ∈ wsG := inS 3 (by decide +kernel) (by decide +kernel)
theorem g_333 : Cond.code yX5_takes cX5_takes 3 (some .boolean) ∈ wsG := inG 368 (by decide +kernel) (by decide +kernel)
theorem g_334 : Cond.methodLink RX8 156 yX5_takes ∈ wsG := inG 365 (by decide +kernel) (by decide +kernel)
theorem g_335 : Cond.instanceMethod yX5_takes ∈ wsG := inG 366 (by decide +kernel) (by decide +kernel)
theorem g_336 : Cond.selects RX5 yX5_takes yX5_takes ∈ wsG := inG 367 (by decide +kernel) (by decide +kernel)
theorem g_337 : Cond.code yX8_isPlace cX8_isPlace 3 (some .boolean) ∈ wsG := inG 359 (by decide +kernel) (by decide +kernel)
theorem g_338 : Cond.static yX8_isPlace ∈ wsG := inG 358 (by decide +kernel) (by decide +kernel)
theorem g_339 : Cond.methodLink RX8 152 yX8_isPlace ∈ wsG := inG 357 (by decide +kernel) (by decide +kernel)
theorem g_340 : Cond.code yX8_homeOf cX8_homeOf 2 (some (.object "HouseholdVault$Household")) ∈ wsG := inG 356 (by decide +kernel) (by decide +kernel)
theorem g_341 : Cond.methodLink RX8 148 yX8_homeOf ∈ wsG := inG 353 (by decide +kernel) (by decide +kernel)
theorem g_342 : Cond.instanceMethod yX8_homeOf ∈ wsG := inG 355 (by decide +kernel) (by decide +kernel)
theorem g_343 : Cond.selects RX8 yX8_homeOf yX8_homeOf ∈ wsG := inS 2 (by decide +kernel) (by decide +kernel)
theorem g_344 : Cond.code yX3_settle cX3_settle 3 none ∈ wsG := inG 397 (by decide +kernel) (by decide +kernel)
theorem g_345 : Cond.methodLink RX8 179 yX3_settle ∈ wsG := inG 394 (by decide +kernel) (by decide +kernel)
theorem g_346 : Cond.instanceMethod yX3_settle ∈ wsG := inG 395 (by decide +kernel) (by decide +kernel)
theorem g_347 : Cond.selects RX3 yX3_settle yX3_settle ∈ wsG := inG 396 (by decide +kernel) (by decide +kernel)
theorem g_348 : Cond.fieldLink RX8 172 (cT 6 0).1 (cT 6 0).2.1 (cT 6 0).2.2.1 ∈ wsG := inG 321 (by decide +kernel) (by decide +kernel)
theorem g_349 : Cond.code yX8_settledSheet cX8_settledSheet 6 (some (.object "HouseholdVault$Sheet")) ∈ wsG := inG 393 (by decide +kernel) (by decide +kernel)
theorem g_350 : Cond.methodLink RX8 168 yX8_settledSheet ∈ wsG := inG 390 (by decide +kernel) (by decide +kernel)
theorem g_351 : Cond.instanceMethod yX8_settledSheet ∈ wsG := inG 392 (by decide +kernel) (by decide +kernel)
theorem g_352 : Cond.selects RX8 yX8_settledSheet yX8_settledSheet ∈ wsG := inS 4 (by decide +kernel) (by decide +kernel)
theorem g_353 : Cond.fieldLink RX8 176 (cT 6 1).1 (cT 6 1).2.1 (cT 6 1).2.2.1 ∈ wsG := inG 325 (by decide +kernel) (by decide +kernel)
theorem g_354 : Cond.classLink RX8 112 (cR 0) ∈ wsG := inG 456 (by decide +kernel) (by decide +kernel)
theorem g_355 : Cond.instantiable (cR 0) (cN 0) ∈ wsG := inG 457 (by decide +kernel) (by decide +kernel)
theorem g_356 : Cond.initialized (cR 0) ∈ wsG := inG 12 (by decide +kernel) (by decide +kernel)
theorem g_357 : Cond.code yX3_addCondition cX3_addCondition 2 (some .int) ∈ wsG := inG 496 (by decide +kernel) (by decide +kernel)
theorem g_358 : Cond.methodLink RX8 200 yX3_addCondition ∈ wsG := inG 493 (by decide +kernel) (by decide +kernel)
theorem g_359 : Cond.instanceMethod yX3_addCondition ∈ wsG := inG 494 (by decide +kernel) (by decide +kernel)
theorem g_360 : Cond.selects RX3 yX3_addCondition yX3_addCondition ∈ wsG := inG 495 (by decide +kernel) (by decide +kernel)
theorem g_361 : Cond.code yX0_init cX0_init 9 none ∈ wsG := inG 460 (by decide +kernel) (by decide +kernel)
theorem g_362 : Cond.instanceMethod yX0_init ∈ wsG := inG 459 (by decide +kernel) (by decide +kernel)
theorem g_363 : Cond.methodLink RX8 197 yX0_init ∈ wsG := inG 458 (by decide +kernel) (by decide +kernel)
theorem g_364 : Cond.methodLink RX8 194 yX3_conditionsAreFull ∈ wsG := inG 452 (by decide +kernel) (by decide +kernel)
theorem g_365 : Cond.constantLong RX8 192 (8) ∈ wsG := inG 451 (by decide +kernel) (by decide +kernel)
theorem g_366 : Cond.fieldLink RX8 204 (cT 0 5).1 (cT 0 5).2.1 (cT 0 5).2.2.1 ∈ wsG := inG 475 (by decide +kernel) (by decide +kernel)
theorem g_367 : Cond.fieldLink RX8 207 (cT 0 6).1 (cT 0 6).2.1 (cT 0 6).2.2.1 ∈ wsG := inG 477 (by decide +kernel) (by decide +kernel)
theorem g_368 : Cond.code yX4_isSo cX4_isSo 5 (some .boolean) ∈ wsG := inG 513 (by decide +kernel) (by decide +kernel)
theorem g_369 : Cond.methodLink RX8 210 yX4_isSo ∈ wsG := inG 510 (by decide +kernel) (by decide +kernel)
theorem g_370 : Cond.instanceMethod yX4_isSo ∈ wsG := inG 511 (by decide +kernel) (by decide +kernel)
theorem g_371 : Cond.selects RX4 yX4_isSo yX4_isSo ∈ wsG := inG 512 (by decide +kernel) (by decide +kernel)
theorem g_372 : Cond.code yX2_meet cX2_meet 4 none ∈ wsG := inG 544 (by decide +kernel) (by decide +kernel)
theorem g_373 : Cond.methodLink RX8 241 yX2_meet ∈ wsG := inG 541 (by decide +kernel) (by decide +kernel)
theorem g_374 : Cond.instanceMethod yX2_meet ∈ wsG := inG 542 (by decide +kernel) (by decide +kernel)
theorem g_375 : Cond.selects RX2 yX2_meet yX2_meet ∈ wsG := inG 543 (by decide +kernel) (by decide +kernel)
theorem g_376 : Cond.code yX8_personOf cX8_personOf 2 (some .int) ∈ wsG := inG 540 (by decide +kernel) (by decide +kernel)
theorem g_377 : Cond.static yX8_personOf ∈ wsG := inG 539 (by decide +kernel) (by decide +kernel)
theorem g_378 : Cond.methodLink RX8 238 yX8_personOf ∈ wsG := inG 538 (by decide +kernel) (by decide +kernel)
theorem g_379 : Cond.code yX8_isGiven cX8_isGiven 3 (some .boolean) ∈ wsG := inG 537 (by decide +kernel) (by decide +kernel)
theorem g_380 : Cond.static yX8_isGiven ∈ wsG := inG 536 (by decide +kernel) (by decide +kernel)
theorem g_381 : Cond.methodLink RX8 234 yX8_isGiven ∈ wsG := inG 535 (by decide +kernel) (by decide +kernel)
theorem g_382 : Cond.methodLink RX8 230 yX8_placesOf ∈ wsG := inG 534 (by decide +kernel) (by decide +kernel)
theorem g_383 : Cond.code yX8_meetAgainst cX8_meetAgainst 8 none ∈ wsG := inG 533 (by decide +kernel) (by decide +kernel)
theorem g_384 : Cond.methodLink RX8 227 yX8_meetAgainst ∈ wsG := inG 530 (by decide +kernel) (by decide +kernel)
theorem g_385 : Cond.instanceMethod yX8_meetAgainst ∈ wsG := inG 532 (by decide +kernel) (by decide +kernel)
theorem g_386 : Cond.selects RX8 yX8_meetAgainst yX8_meetAgainst ∈ wsG := inS 12 (by decide +kernel) (by decide +kernel)
theorem g_387 : Cond.code yX2_start cX2_start 2 none ∈ wsG := inG 529 (by decide +kernel) (by decide +kernel)
theorem g_388 : Cond.methodLink RX8 224 yX2_start ∈ wsG := inG 526 (by decide +kernel) (by decide +kernel)
theorem g_389 : Cond.instanceMethod yX2_start ∈ wsG := inG 527 (by decide +kernel) (by decide +kernel)
theorem g_390 : Cond.selects RX2 yX2_start yX2_start ∈ wsG := inG 528 (by decide +kernel) (by decide +kernel)
theorem g_391 : Cond.fieldLink RX8 217 (cT 2 1).1 (cT 2 1).2.1 (cT 2 1).2.2.1 ∈ wsG := inG 109 (by decide +kernel) (by decide +kernel)
theorem g_392 : Cond.code yX8_findAgainst cX8_findAgainst 4 none ∈ wsG := inG 525 (by decide +kernel) (by decide +kernel)
theorem g_393 : Cond.methodLink RX8 214 yX8_findAgainst ∈ wsG := inG 522 (by decide +kernel) (by decide +kernel)
theorem g_394 : Cond.instanceMethod yX8_findAgainst ∈ wsG := inG 524 (by decide +kernel) (by decide +kernel)
theorem g_395 : Cond.selects RX8 yX8_findAgainst yX8_findAgainst ∈ wsG := inS 11 (by decide +kernel) (by decide +kernel)
theorem g_396 : Cond.code yX2_told cX2_told 4 (some .int) ∈ wsG := inG 552 (by decide +kernel) (by decide +kernel)
theorem g_397 : Cond.methodLink RX8 220 yX2_told ∈ wsG := inG 549 (by decide +kernel) (by decide +kernel)
theorem g_398 : Cond.instanceMethod yX2_told ∈ wsG := inG 550 (by decide +kernel) (by decide +kernel)
theorem g_399 : Cond.selects RX2 yX2_told yX2_told ∈ wsG := inG 551 (by decide +kernel) (by decide +kernel)
theorem g_400 : Cond.fieldLink RX8 245 (cT 4 3).1 (cT 4 3).2.1 (cT 4 3).2.2.1 ∈ wsG := inG 339 (by decide +kernel) (by decide +kernel)
theorem g_401 : Cond.methodLink RX8 260 yX7_cells ∈ wsG := inG 593 (by decide +kernel) (by decide +kernel)
theorem g_402 : Cond.code yX7_add cX7_add 4 none ∈ wsG := inG 584 (by decide +kernel) (by decide +kernel)
theorem g_403 : Cond.methodLink RX8 257 yX7_add ∈ wsG := inG 581 (by decide +kernel) (by decide +kernel)
theorem g_404 : Cond.instanceMethod yX7_add ∈ wsG := inG 582 (by decide +kernel) (by decide +kernel)
theorem g_405 : Cond.selects RX7 yX7_add yX7_add ∈ wsG := inG 583 (by decide +kernel) (by decide +kernel)
theorem g_406 : Cond.code yX5_lineOf cX5_lineOf 4 (some .int) ∈ wsG := inG 580 (by decide +kernel) (by decide +kernel)
theorem g_407 : Cond.methodLink RX8 254 yX5_lineOf ∈ wsG := inG 577 (by decide +kernel) (by decide +kernel)
theorem g_408 : Cond.instanceMethod yX5_lineOf ∈ wsG := inG 578 (by decide +kernel) (by decide +kernel)
theorem g_409 : Cond.selects RX5 yX5_lineOf yX5_lineOf ∈ wsG := inG 579 (by decide +kernel) (by decide +kernel)
theorem g_410 : Cond.code yX7_start cX7_start 4 none ∈ wsG := inG 568 (by decide +kernel) (by decide +kernel)
theorem g_411 : Cond.methodLink RX8 251 yX7_start ∈ wsG := inG 565 (by decide +kernel) (by decide +kernel)
theorem g_412 : Cond.instanceMethod yX7_start ∈ wsG := inG 566 (by decide +kernel) (by decide +kernel)
theorem g_413 : Cond.selects RX7 yX7_start yX7_start ∈ wsG := inG 567 (by decide +kernel) (by decide +kernel)
theorem g_414 : Cond.code yX5_makesLines cX5_makesLines 1 (some .boolean) ∈ wsG := inG 564 (by decide +kernel) (by decide +kernel)
theorem g_415 : Cond.methodLink RX8 248 yX5_makesLines ∈ wsG := inG 561 (by decide +kernel) (by decide +kernel)
theorem g_416 : Cond.instanceMethod yX5_makesLines ∈ wsG := inG 562 (by decide +kernel) (by decide +kernel)
theorem g_417 : Cond.selects RX5 yX5_makesLines yX5_makesLines ∈ wsG := inG 563 (by decide +kernel) (by decide +kernel)
theorem g_418 : Cond.constantLong RX8 268 (-1) ∈ wsG := inG 602 (by decide +kernel) (by decide +kernel)
theorem g_419 : Cond.fieldLink RX8 270 (cT 7 3).1 (cT 7 3).2.1 (cT 7 3).2.2.1 ∈ wsG := inG 72 (by decide +kernel) (by decide +kernel)
theorem g_420 : Cond.methodLink RX8 273 yX7_at ∈ wsG := inG 603 (by decide +kernel) (by decide +kernel)
theorem g_421 : Cond.fieldLink RX8 276 (cT 7 4).1 (cT 7 4).2.1 (cT 7 4).2.2.1 ∈ wsG := inG 74 (by decide +kernel) (by decide +kernel)
theorem g_422 : Cond.methodLink RX8 279 yX7_isHeld ∈ wsG := inG 604 (by decide +kernel) (by decide +kernel)
theorem g_423 : Cond.methodLink RX8 264 yX7_hasCell ∈ wsG := inG 601 (by decide +kernel) (by decide +kernel)
theorem g_424 : Cond.constant RX8 285 (1000000) ∈ wsG := inG 616 (by decide +kernel) (by decide +kernel)
theorem g_425 : Cond.code yX7_reckonShares cX7_reckonShares 6 (some .boolean) ∈ wsG := inG 620 (by decide +kernel) (by decide +kernel)
theorem g_426 : Cond.methodLink RX8 286 yX7_reckonShares ∈ wsG := inG 617 (by decide +kernel) (by decide +kernel)
theorem g_427 : Cond.instanceMethod yX7_reckonShares ∈ wsG := inG 618 (by decide +kernel) (by decide +kernel)
theorem g_428 : Cond.selects RX7 yX7_reckonShares yX7_reckonShares ∈ wsG := inG 619 (by decide +kernel) (by decide +kernel)
theorem g_429 : Cond.code yX7_isNone cX7_isNone 1 (some .boolean) ∈ wsG := inG 615 (by decide +kernel) (by decide +kernel)
theorem g_430 : Cond.methodLink RX8 282 yX7_isNone ∈ wsG := inG 612 (by decide +kernel) (by decide +kernel)
theorem g_431 : Cond.instanceMethod yX7_isNone ∈ wsG := inG 613 (by decide +kernel) (by decide +kernel)
theorem g_432 : Cond.selects RX7 yX7_isNone yX7_isNone ∈ wsG := inG 614 (by decide +kernel) (by decide +kernel)
theorem g_433 : Cond.fieldLink RX8 289 (cT 7 5).1 (cT 7 5).2.1 (cT 7 5).2.2.1 ∈ wsG := inG 76 (by decide +kernel) (by decide +kernel)
theorem g_434 : Cond.fieldLink RX8 298 (cT 7 8).1 (cT 7 8).2.1 (cT 7 8).2.2.1 ∈ wsG := inG 80 (by decide +kernel) (by decide +kernel)
theorem g_435 : Cond.code yX7_holdUntilNoneFollows cX7_holdUntilNoneFollows 4 none ∈ wsG := inG 646 (by decide +kernel) (by decide +kernel)
theorem g_436 : Cond.methodLink RX8 295 yX7_holdUntilNoneFollows ∈ wsG := inG 643 (by decide +kernel) (by decide +kernel)
theorem g_437 : Cond.instanceMethod yX7_holdUntilNoneFollows ∈ wsG := inG 644 (by decide +kernel) (by decide +kernel)
theorem g_438 : Cond.selects RX7 yX7_holdUntilNoneFollows yX7_holdUntilNoneFollows ∈ wsG := inG 645 (by decide +kernel) (by decide +kernel)
theorem g_439 : Cond.code yX7_holdBelow cX7_holdBelow 5 none ∈ wsG := inG 638 (by decide +kernel) (by decide +kernel)
theorem g_440 : Cond.methodLink RX8 292 yX7_holdBelow ∈ wsG := inG 635 (by decide +kernel) (by decide +kernel)
theorem g_441 : Cond.instanceMethod yX7_holdBelow ∈ wsG := inG 636 (by decide +kernel) (by decide +kernel)
theorem g_442 : Cond.selects RX7 yX7_holdBelow yX7_holdBelow ∈ wsG := inG 637 (by decide +kernel) (by decide +kernel)
theorem g_443 : Cond.methodLink RX8 301 yX7_firstFollowing ∈ wsG := inG 668 (by decide +kernel) (by decide +kernel)
theorem g_444 : Cond.code yX8_heightOf cX8_heightOf 6 (some .long) ∈ wsG := inG 684 (by decide +kernel) (by decide +kernel)
theorem g_445 : Cond.methodLink RX8 313 yX8_heightOf ∈ wsG := inG 681 (by decide +kernel) (by decide +kernel)
theorem g_446 : Cond.instanceMethod yX8_heightOf ∈ wsG := inG 683 (by decide +kernel) (by decide +kernel)
theorem g_447 : Cond.selects RX8 yX8_heightOf yX8_heightOf ∈ wsG := inS 21 (by decide +kernel) (by decide +kernel)
theorem g_448 : Cond.code yX8_insertRising cX8_insertRising 7 none ∈ wsG := inG 680 (by decide +kernel) (by decide +kernel)
theorem g_449 : Cond.methodLink RX8 310 yX8_insertRising ∈ wsG := inG 677 (by decide +kernel) (by decide +kernel)
theorem g_450 : Cond.instanceMethod yX8_insertRising ∈ wsG := inG 679 (by decide +kernel) (by decide +kernel)
theorem g_451 : Cond.selects RX8 yX8_insertRising yX8_insertRising ∈ wsG := inS 20 (by decide +kernel) (by decide +kernel)
theorem g_452 : Cond.code yX8_missingAt cX8_missingAt 5 (some .int) ∈ wsG := inG 688 (by decide +kernel) (by decide +kernel)
theorem g_453 : Cond.methodLink RX8 307 yX8_missingAt ∈ wsG := inG 685 (by decide +kernel) (by decide +kernel)
theorem g_454 : Cond.instanceMethod yX8_missingAt ∈ wsG := inG 687 (by decide +kernel) (by decide +kernel)
theorem g_455 : Cond.selects RX8 yX8_missingAt yX8_missingAt ∈ wsG := inS 22 (by decide +kernel) (by decide +kernel)
theorem g_456 : Cond.code yX8_sortRising cX8_sortRising 6 (some .int) ∈ wsG := inG 676 (by decide +kernel) (by decide +kernel)
theorem g_457 : Cond.methodLink RX8 304 yX8_sortRising ∈ wsG := inG 673 (by decide +kernel) (by decide +kernel)
theorem g_458 : Cond.instanceMethod yX8_sortRising ∈ wsG := inG 675 (by decide +kernel) (by decide +kernel)
theorem g_459 : Cond.selects RX8 yX8_sortRising yX8_sortRising ∈ wsG := inS 19 (by decide +kernel) (by decide +kernel)
theorem g_460 : Cond.code yX6_isLike cX6_isLike 3 (some .boolean) ∈ wsG := inG 716 (by decide +kernel) (by decide +kernel)
theorem g_461 : Cond.methodLink RX8 327 yX6_isLike ∈ wsG := inG 713 (by decide +kernel) (by decide +kernel)
theorem g_462 : Cond.instanceMethod yX6_isLike ∈ wsG := inG 714 (by decide +kernel) (by decide +kernel)
theorem g_463 : Cond.selects RX6 yX6_isLike yX6_isLike ∈ wsG := inG 715 (by decide +kernel) (by decide +kernel)
theorem g_464 : Cond.code yX8_areLikeIn cX8_areLikeIn 8 (some .boolean) ∈ wsG := inG 720 (by decide +kernel) (by decide +kernel)
theorem g_465 : Cond.methodLink RX8 331 yX8_areLikeIn ∈ wsG := inG 717 (by decide +kernel) (by decide +kernel)
theorem g_466 : Cond.instanceMethod yX8_areLikeIn ∈ wsG := inG 719 (by decide +kernel) (by decide +kernel)
theorem g_467 : Cond.selects RX8 yX8_areLikeIn yX8_areLikeIn ∈ wsG := inS 25 (by decide +kernel) (by decide +kernel)
theorem g_468 : Cond.code yX8_areDoubles cX8_areDoubles 5 (some .boolean) ∈ wsG := inG 712 (by decide +kernel) (by decide +kernel)
theorem g_469 : Cond.methodLink RX8 323 yX8_areDoubles ∈ wsG := inG 709 (by decide +kernel) (by decide +kernel)
theorem g_470 : Cond.instanceMethod yX8_areDoubles ∈ wsG := inG 711 (by decide +kernel) (by decide +kernel)
theorem g_471 : Cond.selects RX8 yX8_areDoubles yX8_areDoubles ∈ wsG := inS 24 (by decide +kernel) (by decide +kernel)
theorem g_472 : Cond.code yX3_hasMarked cX3_hasMarked 2 (some .boolean) ∈ wsG := inG 708 (by decide +kernel) (by decide +kernel)
theorem g_473 : Cond.methodLink RX8 320 yX3_hasMarked ∈ wsG := inG 705 (by decide +kernel) (by decide +kernel)
theorem g_474 : Cond.instanceMethod yX3_hasMarked ∈ wsG := inG 706 (by decide +kernel) (by decide +kernel)
theorem g_475 : Cond.selects RX3 yX3_hasMarked yX3_hasMarked ∈ wsG := inG 707 (by decide +kernel) (by decide +kernel)
theorem g_476 : Cond.code yX8_findDoubles cX8_findDoubles 4 none ∈ wsG := inG 704 (by decide +kernel) (by decide +kernel)
theorem g_477 : Cond.methodLink RX8 317 yX8_findDoubles ∈ wsG := inG 701 (by decide +kernel) (by decide +kernel)
theorem g_478 : Cond.instanceMethod yX8_findDoubles ∈ wsG := inG 703 (by decide +kernel) (by decide +kernel)
theorem g_479 : Cond.selects RX8 yX8_findDoubles yX8_findDoubles ∈ wsG := inS 23 (by decide +kernel) (by decide +kernel)
theorem g_480 : Cond.fieldLink RX8 335 (cT 8 4).1 (cT 8 4).2.1 (cT 8 4).2.2.1 ∈ wsG := inG 128 (by decide +kernel) (by decide +kernel)
theorem g_481 : Cond.classLink RX8 135 (aC 7) ∈ wsG := inG 729 (by decide +kernel) (by decide +kernel)
theorem g_482 : Cond.classLink RX8 22 (cR 1) ∈ wsG := inG 58 (by decide +kernel) (by decide +kernel)
theorem g_483 : Cond.instantiable (cR 1) (cN 1) ∈ wsG := inG 758 (by decide +kernel) (by decide +kernel)
theorem g_484 : Cond.initialized (cR 1) ∈ wsG := inG 14 (by decide +kernel) (by decide +kernel)
theorem g_485 : Cond.code yX1_init cX1_init 3 none ∈ wsG := inG 761 (by decide +kernel) (by decide +kernel)
theorem g_486 : Cond.initialized RX1 ∈ wsG := inG 14 (by decide +kernel) (by decide +kernel)
theorem g_487 : Cond.instanceMethod yX1_init ∈ wsG := inG 760 (by decide +kernel) (by decide +kernel)
theorem g_488 : Cond.methodLink RX8 341 yX1_init ∈ wsG := inG 759 (by decide +kernel) (by decide +kernel)
theorem g_489 : Cond.classLink RX8 135 (cR 6) ∈ wsG := inG 729 (by decide +kernel) (by decide +kernel)
theorem g_490 : Cond.code yX6_init_ cX6_init_ 4 none ∈ wsG := inG 733 (by decide +kernel) (by decide +kernel)
theorem g_491 : Cond.instanceMethod yX6_init_ ∈ wsG := inG 732 (by decide +kernel) (by decide +kernel)
theorem g_492 : Cond.methodLink RX8 338 yX6_init_ ∈ wsG := inG 731 (by decide +kernel) (by decide +kernel)
theorem g_493 : Cond.fieldLink RX8 376 (cT 1 1).1 (cT 1 1).2.1 (cT 1 1).2.2.1 ∈ wsG := inG 766 (by decide +kernel) (by decide +kernel)
theorem g_494 : Cond.fieldLink RX8 356 (cT 1 0).1 (cT 1 0).2.1 (cT 1 0).2.2.1 ∈ wsG := inG 764 (by decide +kernel) (by decide +kernel)
theorem g_495 : Cond.code yX8_editionOf cX8_editionOf 2 (some (.object "HouseholdVault$Edition")) ∈ wsG := inG 783 (by decide +kernel) (by decide +kernel)
theorem g_496 : Cond.methodLink RX8 348 yX8_editionOf ∈ wsG := inG 780 (by decide +kernel) (by decide +kernel)
theorem g_497 : Cond.instanceMethod yX8_editionOf ∈ wsG := inG 782 (by decide +kernel) (by decide +kernel)
theorem g_498 : Cond.selects RX8 yX8_editionOf yX8_editionOf ∈ wsG := inS 27 (by decide +kernel) (by decide +kernel)
theorem g_499 : Cond.code yX8_frozenSheet cX8_frozenSheet 8 (some (.object "HouseholdVault$Sheet")) ∈ wsG := inG 779 (by decide +kernel) (by decide +kernel)
theorem g_500 : Cond.methodLink RX8 344 yX8_frozenSheet ∈ wsG := inG 776 (by decide +kernel) (by decide +kernel)
theorem g_501 : Cond.instanceMethod yX8_frozenSheet ∈ wsG := inG 778 (by decide +kernel) (by decide +kernel)
theorem g_502 : Cond.selects RX8 yX8_frozenSheet yX8_frozenSheet ∈ wsG := inS 26 (by decide +kernel) (by decide +kernel)
theorem g_503 : Cond.methodLink RX8 360 Lib.Math.min.name ∈ wsG := inG 796 (by decide +kernel) (by decide +kernel)
theorem g_504 : Cond.code yX8_meetChanges cX8_meetChanges 11 none ∈ wsG := inG 800 (by decide +kernel) (by decide +kernel)
theorem g_505 : Cond.methodLink RX8 377 yX8_meetChanges ∈ wsG := inG 797 (by decide +kernel) (by decide +kernel)
theorem g_506 : Cond.instanceMethod yX8_meetChanges ∈ wsG := inG 799 (by decide +kernel) (by decide +kernel)
theorem g_507 : Cond.selects RX8 yX8_meetChanges yX8_meetChanges ∈ wsG := inS 29 (by decide +kernel) (by decide +kernel)
theorem g_508 : Cond.code yX8_findChanges cX8_findChanges 8 none ∈ wsG := inG 795 (by decide +kernel) (by decide +kernel)
theorem g_509 : Cond.methodLink RX8 352 yX8_findChanges ∈ wsG := inG 792 (by decide +kernel) (by decide +kernel)
theorem g_510 : Cond.instanceMethod yX8_findChanges ∈ wsG := inG 794 (by decide +kernel) (by decide +kernel)
theorem g_511 : Cond.selects RX8 yX8_findChanges yX8_findChanges ∈ wsG := inS 28 (by decide +kernel) (by decide +kernel)
theorem g_512 : Cond.code yX6_takeFrom cX6_takeFrom 3 (some .boolean) ∈ wsG := inG 816 (by decide +kernel) (by decide +kernel)
theorem g_513 : Cond.methodLink RX8 381 yX6_takeFrom ∈ wsG := inG 813 (by decide +kernel) (by decide +kernel)
theorem g_514 : Cond.instanceMethod yX6_takeFrom ∈ wsG := inG 814 (by decide +kernel) (by decide +kernel)
theorem g_515 : Cond.selects RX6 yX6_takeFrom yX6_takeFrom ∈ wsG := inG 815 (by decide +kernel) (by decide +kernel)
theorem g_516 : Cond.code yX8_bringBack cX8_bringBack 10 (some .int) ∈ wsG := inG 812 (by decide +kernel) (by decide +kernel)
theorem g_517 : Cond.methodLink RX8 363 yX8_bringBack ∈ wsG := inG 809 (by decide +kernel) (by decide +kernel)
theorem g_518 : Cond.instanceMethod yX8_bringBack ∈ wsG := inG 811 (by decide +kernel) (by decide +kernel)
theorem g_519 : Cond.selects RX8 yX8_bringBack yX8_bringBack ∈ wsG := inS 30 (by decide +kernel) (by decide +kernel)
theorem g_520 : Cond.fieldLink RX8 367 (cT 3 3).1 (cT 3 3).2.1 (cT 3 3).2.2.1 ∈ wsG := inG 39 (by decide +kernel) (by decide +kernel)
theorem g_521 : Cond.fieldLink RX8 370 (cT 7 0).1 (cT 7 0).2.1 (cT 7 0).2.2.1 ∈ wsG := inG 67 (by decide +kernel) (by decide +kernel)
theorem g_522 : Cond.fieldLink RX8 373 (cT 7 1).1 (cT 7 1).2.1 (cT 7 1).2.2.1 ∈ wsG := inG 69 (by decide +kernel) (by decide +kernel)
theorem g_523 : Cond.methodLink RX9 1 Lib.objectInit ∈ wsG := inG 827 (by decide +kernel) (by decide +kernel)
theorem g_524 : Cond.fieldLink RX9 7 (cT 9 1).1 (cT 9 1).2.1 (cT 9 1).2.2.1 ∈ wsG := inG 830 (by decide +kernel) (by decide +kernel)
theorem g_525 : Cond.fieldLink RX9 13 (cT 9 2).1 (cT 9 2).2.1 (cT 9 2).2.2.1 ∈ wsG := inG 831 (by decide +kernel) (by decide +kernel)
theorem g_526 : Cond.fieldLink RX9 16 (cT 9 3).1 (cT 9 3).2.1 (cT 9 3).2.2.1 ∈ wsG := inG 832 (by decide +kernel) (by decide +kernel)
theorem g_527 : Cond.fieldLink RX9 19 (cT 9 4).1 (cT 9 4).2.1 (cT 9 4).2.2.1 ∈ wsG := inG 833 (by decide +kernel) (by decide +kernel)
theorem g_528 : Cond.fieldLink RX9 22 (cT 9 5).1 (cT 9 5).2.1 (cT 9 5).2.2.1 ∈ wsG := inG 834 (by decide +kernel) (by decide +kernel)
theorem g_529 : Cond.fieldLink RX9 25 (cT 9 6).1 (cT 9 6).2.1 (cT 9 6).2.2.1 ∈ wsG := inG 835 (by decide +kernel) (by decide +kernel)
theorem g_530 : Cond.arrayClass (aty 2) ∈ wsG := inG 989 (by decide +kernel) (by decide +kernel)
theorem g_531 : Cond.fieldLink RX9 28 (cT 9 7).1 (cT 9 7).2.1 (cT 9 7).2.2.1 ∈ wsG := inG 836 (by decide +kernel) (by decide +kernel)
theorem g_532 : Cond.fieldLink RX9 32 (cT 9 8).1 (cT 9 8).2.1 (cT 9 8).2.2.1 ∈ wsG := inG 837 (by decide +kernel) (by decide +kernel)
theorem g_533 : Cond.fieldLink RX9 35 (cT 9 9).1 (cT 9 9).2.1 (cT 9 9).2.2.1 ∈ wsG := inG 838 (by decide +kernel) (by decide +kernel)
theorem g_534 : Cond.fieldLink RX9 38 (cT 9 10).1 (cT 9 10).2.1 (cT 9 10).2.2.1 ∈ wsG := inG 839 (by decide +kernel) (by decide +kernel)
theorem g_535 : Cond.fieldLink RX9 42 (cT 9 11).1 (cT 9 11).2.1 (cT 9 11).2.2.1 ∈ wsG := inG 840 (by decide +kernel) (by decide +kernel)
theorem g_536 : Cond.fieldLink RX9 45 (cT 9 12).1 (cT 9 12).2.1 (cT 9 12).2.2.1 ∈ wsG := inG 841 (by decide +kernel) (by decide +kernel)
theorem g_537 : Cond.fieldLink RX9 48 (cT 9 13).1 (cT 9 13).2.1 (cT 9 13).2.2.1 ∈ wsG := inG 842 (by decide +kernel) (by decide +kernel)
theorem g_538 : Cond.fieldLink RX9 51 (cT 9 15).1 (cT 9 15).2.1 (cT 9 15).2.2.1 ∈ wsG := inG 844 (by decide +kernel) (by decide +kernel)
theorem g_539 : Cond.fieldLink RX9 54 (cT 9 16).1 (cT 9 16).2.1 (cT 9 16).2.2.1 ∈ wsG := inG 845 (by decide +kernel) (by decide +kernel)
theorem g_540 : Cond.fieldLink RX9 57 (cT 9 17).1 (cT 9 17).2.1 (cT 9 17).2.2.1 ∈ wsG := inG 846 (by decide +kernel) (by decide +kernel)
theorem g_541 : Cond.fieldLink RX9 60 (cT 9 19).1 (cT 9 19).2.1 (cT 9 19).2.2.1 ∈ wsG := inG 848 (by decide +kernel) (by decide +kernel)
theorem g_542 : Cond.fieldLink RX9 63 (cT 9 20).1 (cT 9 20).2.1 (cT 9 20).2.2.1 ∈ wsG := inG 849 (by decide +kernel) (by decide +kernel)
theorem g_543 : Cond.fieldLink RX9 66 (cT 9 21).1 (cT 9 21).2.1 (cT 9 21).2.2.1 ∈ wsG := inG 850 (by decide +kernel) (by decide +kernel)
theorem g_544 : Cond.fieldLink RX9 69 (cT 9 22).1 (cT 9 22).2.1 (cT 9 22).2.2.1 ∈ wsG := inG 851 (by decide +kernel) (by decide +kernel)
theorem g_545 : Cond.fieldLink RX9 72 (cT 9 23).1 (cT 9 23).2.1 (cT 9 23).2.2.1 ∈ wsG := inG 852 (by decide +kernel) (by decide +kernel)
theorem g_546 : Cond.fieldLink RX9 75 (cT 9 24).1 (cT 9 24).2.1 (cT 9 24).2.2.1 ∈ wsG := inG 853 (by decide +kernel) (by decide +kernel)
theorem g_547 : Cond.fieldLink RX9 78 (cT 9 25).1 (cT 9 25).2.1 (cT 9 25).2.2.1 ∈ wsG := inG 854 (by decide +kernel) (by decide +kernel)
theorem g_548 : Cond.fieldLink RX9 81 (cT 9 26).1 (cT 9 26).2.1 (cT 9 26).2.2.1 ∈ wsG := inG 855 (by decide +kernel) (by decide +kernel)
theorem g_549 : Cond.fieldLink RX9 84 (cT 9 27).1 (cT 9 27).2.1 (cT 9 27).2.2.1 ∈ wsG := inG 856 (by decide +kernel) (by decide +kernel)
theorem g_550 : Cond.fieldLink RX9 87 (cT 9 28).1 (cT 9 28).2.1 (cT 9 28).2.2.1 ∈ wsG := inG 857 (by decide +kernel) (by decide +kernel)
theorem g_551 : Cond.fieldLink RX9 90 (cT 9 31).1 (cT 9 31).2.1 (cT 9 31).2.2.1 ∈ wsG := inG 860 (by decide +kernel) (by decide +kernel)
theorem g_552 : Cond.fieldLink RX9 93 (cT 9 32).1 (cT 9 32).2.1 (cT 9 32).2.2.1 ∈ wsG := inG 861 (by decide +kernel) (by decide +kernel)
theorem g_553 : Cond.constant RX9 96 (34560) ∈ wsG := inG 828 (by decide +kernel) (by decide +kernel)
theorem g_554 : Cond.fieldLink RX9 97 (cT 9 33).1 (cT 9 33).2.1 (cT 9 33).2.2.1 ∈ wsG := inG 862 (by decide +kernel) (by decide +kernel)
theorem g_555 : Cond.fieldLink RX9 100 (cT 9 34).1 (cT 9 34).2.1 (cT 9 34).2.2.1 ∈ wsG := inG 863 (by decide +kernel) (by decide +kernel)
theorem g_556 : Cond.fieldLink RX9 103 (cT 9 39).1 (cT 9 39).2.1 (cT 9 39).2.2.1 ∈ wsG := inG 868 (by decide +kernel) (by decide +kernel)
theorem g_557 : Cond.fieldLink RX9 106 (cT 9 40).1 (cT 9 40).2.1 (cT 9 40).2.2.1 ∈ wsG := inG 869 (by decide +kernel) (by decide +kernel)
theorem g_558 : Cond.fieldLink RX9 109 (cT 9 41).1 (cT 9 41).2.1 (cT 9 41).2.2.1 ∈ wsG := inG 870 (by decide +kernel) (by decide +kernel)
theorem g_559 : Cond.fieldLink RX9 112 (cT 9 42).1 (cT 9 42).2.1 (cT 9 42).2.2.1 ∈ wsG := inG 871 (by decide +kernel) (by decide +kernel)
theorem g_560 : Cond.fieldLink RX9 115 (cT 9 43).1 (cT 9 43).2.1 (cT 9 43).2.2.1 ∈ wsG := inG 872 (by decide +kernel) (by decide +kernel)
theorem g_561 : Cond.fieldLink RX9 118 (cT 9 44).1 (cT 9 44).2.1 (cT 9 44).2.2.1 ∈ wsG := inG 873 (by decide +kernel) (by decide +kernel)
theorem g_562 : Cond.fieldLink RX9 121 (cT 9 45).1 (cT 9 45).2.1 (cT 9 45).2.2.1 ∈ wsG := inG 874 (by decide +kernel) (by decide +kernel)
theorem g_563 : Cond.fieldLink RX9 124 (cT 9 49).1 (cT 9 49).2.1 (cT 9 49).2.2.1 ∈ wsG := inG 878 (by decide +kernel) (by decide +kernel)
theorem g_564 : Cond.fieldLink RX9 127 (cT 9 50).1 (cT 9 50).2.1 (cT 9 50).2.2.1 ∈ wsG := inG 879 (by decide +kernel) (by decide +kernel)
theorem g_565 : Cond.fieldLink RX9 130 (cT 9 51).1 (cT 9 51).2.1 (cT 9 51).2.2.1 ∈ wsG := inG 880 (by decide +kernel) (by decide +kernel)
theorem g_566 : Cond.fieldLink RX9 133 (cT 9 52).1 (cT 9 52).2.1 (cT 9 52).2.2.1 ∈ wsG := inG 881 (by decide +kernel) (by decide +kernel)
theorem inl_9 : ∀ w ∈ u_ws (cR 9) (cT 9) (cN 9), w ∈ wsG := inL [882, 884, 886, 888, 890, 892, 894, 896, 898, 900, 902, 904, 906, 908, 910, 912, 914, 916, 918, 920, 922, 924, 926, 928, 930, 932, 934, 936, 938, 940, 942, 944, 946, 948, 950, 952, 954, 956, 958, 960, 962, 964, 966, 968, 970, 972, 974, 976, 978, 980, 982, 984, 986] (by decide +kernel) (by decide +kernel)
theorem g_567 : Cond.fieldLink RX9 136 (cT 9 0).1 (cT 9 0).2.1 (cT 9 0).2.2.1 ∈ wsG := inG 829 (by decide +kernel) (by decide +kernel)
theorem g_568 : Cond.code yX9_in cX9_in 6 (some .boolean) ∈ wsG := inG 997 (by decide +kernel) (by decide +kernel)
theorem g_569 : Cond.initialized RX9 ∈ wsG := inG 5 (by decide +kernel) (by decide +kernel)
theorem g_570 : Cond.static yX9_in ∈ wsG := inG 996 (by decide +kernel) (by decide +kernel)
theorem g_571 : Cond.methodLink RX9 140 yX9_in ∈ wsG := inG 995 (by decide +kernel) (by decide +kernel)
theorem g_572 : Cond.fieldLink RX9 144 (cT 9 14).1 (cT 9 14).2.1 (cT 9 14).2.2.1 ∈ wsG := inG 843 (by decide +kernel) (by decide +kernel)
theorem g_573 : Cond.fieldLink RX9 147 (cT 9 18).1 (cT 9 18).2.1 (cT 9 18).2.2.1 ∈ wsG := inG 847 (by decide +kernel) (by decide +kernel)
theorem g_574 : Cond.code yX9_place cX9_place 3 (some .int) ∈ wsG := inG 1012 (by decide +kernel) (by decide +kernel)
theorem g_575 : Cond.static yX9_place ∈ wsG := inG 1011 (by decide +kernel) (by decide +kernel)
theorem g_576 : Cond.methodLink RX9 150 yX9_place ∈ wsG := inG 1010 (by decide +kernel) (by decide +kernel)
theorem g_577 : Cond.fieldLink RX9 158 (cT 9 29).1 (cT 9 29).2.1 (cT 9 29).2.2.1 ∈ wsG := inG 858 (by decide +kernel) (by decide +kernel)
theorem g_578 : Cond.code yX9_blank cX9_blank 4 none ∈ wsG := inG 1009 (by decide +kernel) (by decide +kernel)
theorem g_579 : Cond.methodLink RX9 154 yX9_blank ∈ wsG := inG 1006 (by decide +kernel) (by decide +kernel)
theorem g_580 : Cond.instanceMethod yX9_blank ∈ wsG := inG 1008 (by decide +kernel) (by decide +kernel)
theorem g_581 : Cond.selects RX9 yX9_blank yX9_blank ∈ wsG := inS 33 (by decide +kernel) (by decide +kernel)
theorem g_582 : Cond.constantLong RX9 161 (5) ∈ wsG := inG 994 (by decide +kernel) (by decide +kernel)
theorem g_583 : Cond.code yX9_add cX9_add 6 (some .int) ∈ wsG := inG 1005 (by decide +kernel) (by decide +kernel)
theorem g_584 : Cond.methodLink RX9 167 yX9_add ∈ wsG := inG 1002 (by decide +kernel) (by decide +kernel)
theorem g_585 : Cond.instanceMethod yX9_add ∈ wsG := inG 1004 (by decide +kernel) (by decide +kernel)
theorem g_586 : Cond.selects RX9 yX9_add yX9_add ∈ wsG := inS 32 (by decide +kernel) (by decide +kernel)
theorem g_587 : Cond.code yX9_isQuestion cX9_isQuestion 2 (some .boolean) ∈ wsG := inG 1001 (by decide +kernel) (by decide +kernel)
theorem g_588 : Cond.methodLink RX9 163 yX9_isQuestion ∈ wsG := inG 998 (by decide +kernel) (by decide +kernel)
theorem g_589 : Cond.instanceMethod yX9_isQuestion ∈ wsG := inG 1000 (by decide +kernel) (by decide +kernel)
theorem g_590 : Cond.selects RX9 yX9_isQuestion yX9_isQuestion ∈ wsG := inS 31 (by decide +kernel) (by decide +kernel)
theorem g_591 : Cond.constantLong RX9 170 (-128) ∈ wsG := inG 1017 (by decide +kernel) (by decide +kernel)
theorem g_592 : Cond.constantLong RX9 172 (127) ∈ wsG := inG 1018 (by decide +kernel) (by decide +kernel)
theorem g_593 : Cond.code yX9_codeNumber cX9_codeNumber 6 (some .int) ∈ wsG := inG 1022 (by decide +kernel) (by decide +kernel)
theorem g_594 : Cond.methodLink RX9 174 yX9_codeNumber ∈ wsG := inG 1019 (by decide +kernel) (by decide +kernel)
theorem g_595 : Cond.instanceMethod yX9_codeNumber ∈ wsG := inG 1021 (by decide +kernel) (by decide +kernel)
theorem g_596 : Cond.selects RX9 yX9_codeNumber yX9_codeNumber ∈ wsG := inS 34 (by decide +kernel) (by decide +kernel)
theorem g_597 : Cond.code yX9_isCondition cX9_isCondition 2 (some .boolean) ∈ wsG := inG 1038 (by decide +kernel) (by decide +kernel)
theorem g_598 : Cond.methodLink RX9 178 yX9_isCondition ∈ wsG := inG 1035 (by decide +kernel) (by decide +kernel)
theorem g_599 : Cond.instanceMethod yX9_isCondition ∈ wsG := inG 1037 (by decide +kernel) (by decide +kernel)
theorem g_600 : Cond.selects RX9 yX9_isCondition yX9_isCondition ∈ wsG := inS 35 (by decide +kernel) (by decide +kernel)
theorem g_601 : Cond.code yX9_persons cX9_persons 3 (some .int) ∈ wsG := inG 1070 (by decide +kernel) (by decide +kernel)
theorem g_602 : Cond.methodLink RX9 184 yX9_persons ∈ wsG := inG 1067 (by decide +kernel) (by decide +kernel)
theorem g_603 : Cond.instanceMethod yX9_persons ∈ wsG := inG 1069 (by decide +kernel) (by decide +kernel)
theorem g_604 : Cond.selects RX9 yX9_persons yX9_persons ∈ wsG := inS 38 (by decide +kernel) (by decide +kernel)
theorem g_605 : Cond.code yX9_isHousehold cX9_isHousehold 2 (some .boolean) ∈ wsG := inG 1066 (by decide +kernel) (by decide +kernel)
theorem g_606 : Cond.methodLink RX9 181 yX9_isHousehold ∈ wsG := inG 1063 (by decide +kernel) (by decide +kernel)
theorem g_607 : Cond.instanceMethod yX9_isHousehold ∈ wsG := inG 1065 (by decide +kernel) (by decide +kernel)
theorem g_608 : Cond.selects RX9 yX9_isHousehold yX9_isHousehold ∈ wsG := inS 37 (by decide +kernel) (by decide +kernel)
theorem g_609 : Cond.constantLong RX9 188 (-1000000000000000) ∈ wsG := inG 1075 (by decide +kernel) (by decide +kernel)
theorem g_610 : Cond.constantLong RX9 190 (1000000000000000) ∈ wsG := inG 1076 (by decide +kernel) (by decide +kernel)
theorem g_611 : Cond.constantLong RX9 192 (-30000) ∈ wsG := inG 1077 (by decide +kernel) (by decide +kernel)
theorem g_612 : Cond.constantLong RX9 194 (30000) ∈ wsG := inG 1078 (by decide +kernel) (by decide +kernel)
theorem g_613 : Cond.code yX9_people cX9_people 7 none ∈ wsG := inG 1082 (by decide +kernel) (by decide +kernel)
theorem g_614 : Cond.methodLink RX9 204 yX9_people ∈ wsG := inG 1079 (by decide +kernel) (by decide +kernel)
theorem g_615 : Cond.instanceMethod yX9_people ∈ wsG := inG 1081 (by decide +kernel) (by decide +kernel)
theorem g_616 : Cond.selects RX9 yX9_people yX9_people ∈ wsG := inS 40 (by decide +kernel) (by decide +kernel)
theorem g_617 : Cond.code yX9_isValue cX9_isValue 4 (some .boolean) ∈ wsG := inG 1074 (by decide +kernel) (by decide +kernel)
theorem g_618 : Cond.methodLink RX9 200 yX9_isValue ∈ wsG := inG 1071 (by decide +kernel) (by decide +kernel)
theorem g_619 : Cond.instanceMethod yX9_isValue ∈ wsG := inG 1073 (by decide +kernel) (by decide +kernel)
theorem g_620 : Cond.selects RX9 yX9_isValue yX9_isValue ∈ wsG := inS 39 (by decide +kernel) (by decide +kernel)
theorem g_621 : Cond.code yX9_isPlace cX9_isPlace 4 (some .boolean) ∈ wsG := inG 1062 (by decide +kernel) (by decide +kernel)
theorem g_622 : Cond.methodLink RX9 196 yX9_isPlace ∈ wsG := inG 1059 (by decide +kernel) (by decide +kernel)
theorem g_623 : Cond.instanceMethod yX9_isPlace ∈ wsG := inG 1061 (by decide +kernel) (by decide +kernel)
theorem g_624 : Cond.selects RX9 yX9_isPlace yX9_isPlace ∈ wsG := inS 36 (by decide +kernel) (by decide +kernel)
theorem g_625 : Cond.code yX9_told cX9_told 6 none ∈ wsG := inG 1098 (by decide +kernel) (by decide +kernel)
theorem g_626 : Cond.methodLink RX9 208 yX9_told ∈ wsG := inG 1095 (by decide +kernel) (by decide +kernel)
theorem g_627 : Cond.instanceMethod yX9_told ∈ wsG := inG 1097 (by decide +kernel) (by decide +kernel)
theorem g_628 : Cond.selects RX9 yX9_told yX9_told ∈ wsG := inS 42 (by decide +kernel) (by decide +kernel)
theorem g_629 : Cond.code yX9_mapAt cX9_mapAt 5 none ∈ wsG := inG 1106 (by decide +kernel) (by decide +kernel)
theorem g_630 : Cond.methodLink RX9 212 yX9_mapAt ∈ wsG := inG 1103 (by decide +kernel) (by decide +kernel)
theorem g_631 : Cond.instanceMethod yX9_mapAt ∈ wsG := inG 1105 (by decide +kernel) (by decide +kernel)
theorem g_632 : Cond.selects RX9 yX9_mapAt yX9_mapAt ∈ wsG := inS 44 (by decide +kernel) (by decide +kernel)
theorem g_633 : Cond.code yX9_isSaid cX9_isSaid 3 (some .boolean) ∈ wsG := inG 1118 (by decide +kernel) (by decide +kernel)
theorem g_634 : Cond.methodLink RX9 219 yX9_isSaid ∈ wsG := inG 1115 (by decide +kernel) (by decide +kernel)
theorem g_635 : Cond.instanceMethod yX9_isSaid ∈ wsG := inG 1117 (by decide +kernel) (by decide +kernel)
theorem g_636 : Cond.selects RX9 yX9_isSaid yX9_isSaid ∈ wsG := inS 47 (by decide +kernel) (by decide +kernel)
theorem g_637 : Cond.code yX9_isAsked cX9_isAsked 7 (some .boolean) ∈ wsG := inG 1114 (by decide +kernel) (by decide +kernel)
theorem g_638 : Cond.methodLink RX9 215 yX9_isAsked ∈ wsG := inG 1111 (by decide +kernel) (by decide +kernel)
theorem g_639 : Cond.instanceMethod yX9_isAsked ∈ wsG := inG 1113 (by decide +kernel) (by decide +kernel)
theorem g_640 : Cond.selects RX9 yX9_isAsked yX9_isAsked ∈ wsG := inS 46 (by decide +kernel) (by decide +kernel)
theorem g_641 : Cond.code yX9_sayAt cX9_sayAt 6 none ∈ wsG := inG 1110 (by decide +kernel) (by decide +kernel)
theorem g_642 : Cond.methodLink RX9 225 yX9_sayAt ∈ wsG := inG 1107 (by decide +kernel) (by decide +kernel)
theorem g_643 : Cond.instanceMethod yX9_sayAt ∈ wsG := inG 1109 (by decide +kernel) (by decide +kernel)
theorem g_644 : Cond.selects RX9 yX9_sayAt yX9_sayAt ∈ wsG := inS 45 (by decide +kernel) (by decide +kernel)
theorem g_645 : Cond.code yX9_makeAt cX9_makeAt 8 none ∈ wsG := inG 1102 (by decide +kernel) (by decide +kernel)
theorem g_646 : Cond.methodLink RX9 222 yX9_makeAt ∈ wsG := inG 1099 (by decide +kernel) (by decide +kernel)
theorem g_647 : Cond.instanceMethod yX9_makeAt ∈ wsG := inG 1101 (by decide +kernel) (by decide +kernel)
theorem g_648 : Cond.selects RX9 yX9_makeAt yX9_makeAt ∈ wsG := inS 43 (by decide +kernel) (by decide +kernel)
theorem g_649 : Cond.code yX9_workOut cX9_workOut 4 none ∈ wsG := inG 1094 (by decide +kernel) (by decide +kernel)
theorem g_650 : Cond.methodLink RX9 228 yX9_workOut ∈ wsG := inG 1091 (by decide +kernel) (by decide +kernel)
theorem g_651 : Cond.instanceMethod yX9_workOut ∈ wsG := inG 1093 (by decide +kernel) (by decide +kernel)
theorem g_652 : Cond.selects RX9 yX9_workOut yX9_workOut ∈ wsG := inS 41 (by decide +kernel) (by decide +kernel)
theorem g_653 : Cond.constantLong RX9 232 (3) ∈ wsG := inG 1127 (by decide +kernel) (by decide +kernel)
theorem g_654 : Cond.code yX9_condition cX9_condition 6 (some .int) ∈ wsG := inG 1132 (by decide +kernel) (by decide +kernel)
theorem g_655 : Cond.methodLink RX9 236 yX9_condition ∈ wsG := inG 1129 (by decide +kernel) (by decide +kernel)
theorem g_656 : Cond.instanceMethod yX9_condition ∈ wsG := inG 1131 (by decide +kernel) (by decide +kernel)
theorem g_657 : Cond.selects RX9 yX9_condition yX9_condition ∈ wsG := inS 48 (by decide +kernel) (by decide +kernel)
theorem g_658 : Cond.constantLong RX9 234 (7) ∈ wsG := inG 1128 (by decide +kernel) (by decide +kernel)
theorem g_659 : Cond.constantLong RX9 240 (2) ∈ wsG := inG 1137 (by decide +kernel) (by decide +kernel)
theorem g_660 : Cond.fieldLink RX9 245 (cT 9 46).1 (cT 9 46).2.1 (cT 9 46).2.2.1 ∈ wsG := inG 875 (by decide +kernel) (by decide +kernel)
theorem g_661 : Cond.fieldLink RX9 248 (cT 9 47).1 (cT 9 47).2.1 (cT 9 47).2.2.1 ∈ wsG := inG 876 (by decide +kernel) (by decide +kernel)
theorem g_662 : Cond.fieldLink RX9 251 (cT 9 48).1 (cT 9 48).2.1 (cT 9 48).2.2.1 ∈ wsG := inG 877 (by decide +kernel) (by decide +kernel)
theorem g_663 : Cond.code yX9_isAgainst cX9_isAgainst 4 (some .boolean) ∈ wsG := inG 1161 (by decide +kernel) (by decide +kernel)
theorem g_664 : Cond.methodLink RX9 242 yX9_isAgainst ∈ wsG := inG 1158 (by decide +kernel) (by decide +kernel)
theorem g_665 : Cond.instanceMethod yX9_isAgainst ∈ wsG := inG 1160 (by decide +kernel) (by decide +kernel)
theorem g_666 : Cond.selects RX9 yX9_isAgainst yX9_isAgainst ∈ wsG := inS 50 (by decide +kernel) (by decide +kernel)
theorem g_667 : Cond.code yX9_countAgainst cX9_countAgainst 7 (some .int) ∈ wsG := inG 1157 (by decide +kernel) (by decide +kernel)
theorem g_668 : Cond.methodLink RX9 254 yX9_countAgainst ∈ wsG := inG 1154 (by decide +kernel) (by decide +kernel)
theorem g_669 : Cond.instanceMethod yX9_countAgainst ∈ wsG := inG 1156 (by decide +kernel) (by decide +kernel)
theorem g_670 : Cond.selects RX9 yX9_countAgainst yX9_countAgainst ∈ wsG := inS 49 (by decide +kernel) (by decide +kernel)
theorem g_671 : Cond.code yX9_sought cX9_sought 2 (some .int) ∈ wsG := inG 1169 (by decide +kernel) (by decide +kernel)
theorem g_672 : Cond.methodLink RX9 258 yX9_sought ∈ wsG := inG 1166 (by decide +kernel) (by decide +kernel)
theorem g_673 : Cond.instanceMethod yX9_sought ∈ wsG := inG 1168 (by decide +kernel) (by decide +kernel)
theorem g_674 : Cond.selects RX9 yX9_sought yX9_sought ∈ wsG := inS 51 (by decide +kernel) (by decide +kernel)
theorem g_675 : Cond.constantLong RX9 261 (1000) ∈ wsG := inG 1174 (by decide +kernel) (by decide +kernel)
theorem g_676 : Cond.constantLong RX9 263 (10) ∈ wsG := inG 1175 (by decide +kernel) (by decide +kernel)
theorem g_677 : Cond.fieldLink RX9 268 (cT 9 35).1 (cT 9 35).2.1 (cT 9 35).2.2.1 ∈ wsG := inG 864 (by decide +kernel) (by decide +kernel)
theorem g_678 : Cond.fieldLink RX9 272 (cT 9 36).1 (cT 9 36).2.1 (cT 9 36).2.2.1 ∈ wsG := inG 865 (by decide +kernel) (by decide +kernel)
theorem g_679 : Cond.fieldLink RX9 275 (cT 9 37).1 (cT 9 37).2.1 (cT 9 37).2.2.1 ∈ wsG := inG 866 (by decide +kernel) (by decide +kernel)
theorem g_680 : Cond.fieldLink RX9 278 (cT 9 38).1 (cT 9 38).2.1 (cT 9 38).2.2.1 ∈ wsG := inG 867 (by decide +kernel) (by decide +kernel)
theorem g_681 : Cond.code yX9_line cX9_line 3 (some .int) ∈ wsG := inG 1187 (by decide +kernel) (by decide +kernel)
theorem g_682 : Cond.methodLink RX9 281 yX9_line ∈ wsG := inG 1184 (by decide +kernel) (by decide +kernel)
theorem g_683 : Cond.instanceMethod yX9_line ∈ wsG := inG 1186 (by decide +kernel) (by decide +kernel)
theorem g_684 : Cond.selects RX9 yX9_line yX9_line ∈ wsG := inS 53 (by decide +kernel) (by decide +kernel)
theorem g_685 : Cond.code yX9_isCodeAtTop cX9_isCodeAtTop 2 (some .boolean) ∈ wsG := inG 1183 (by decide +kernel) (by decide +kernel)
theorem g_686 : Cond.methodLink RX9 265 yX9_isCodeAtTop ∈ wsG := inG 1180 (by decide +kernel) (by decide +kernel)
theorem g_687 : Cond.instanceMethod yX9_isCodeAtTop ∈ wsG := inG 1182 (by decide +kernel) (by decide +kernel)
theorem g_688 : Cond.selects RX9 yX9_isCodeAtTop yX9_isCodeAtTop ∈ wsG := inS 52 (by decide +kernel) (by decide +kernel)
theorem g_689 : Cond.constantLong RX9 287 (-1) ∈ wsG := inG 1196 (by decide +kernel) (by decide +kernel)
theorem g_690 : Cond.code yX9_isCell cX9_isCell 3 (some .boolean) ∈ wsG := inG 1195 (by decide +kernel) (by decide +kernel)
theorem g_691 : Cond.methodLink RX9 284 yX9_isCell ∈ wsG := inG 1192 (by decide +kernel) (by decide +kernel)
theorem g_692 : Cond.instanceMethod yX9_isCell ∈ wsG := inG 1194 (by decide +kernel) (by decide +kernel)
theorem g_693 : Cond.selects RX9 yX9_isCell yX9_isCell ∈ wsG := inS 54 (by decide +kernel) (by decide +kernel)
theorem g_694 : Cond.constantLong RX9 289 (1000000) ∈ wsG := inG 1201 (by decide +kernel) (by decide +kernel)
theorem g_695 : Cond.code yX9_hangTogether cX9_hangTogether 8 (some .boolean) ∈ wsG := inG 1221 (by decide +kernel) (by decide +kernel)
theorem g_696 : Cond.methodLink RX9 291 yX9_hangTogether ∈ wsG := inG 1218 (by decide +kernel) (by decide +kernel)
theorem g_697 : Cond.instanceMethod yX9_hangTogether ∈ wsG := inG 1220 (by decide +kernel) (by decide +kernel)
theorem g_698 : Cond.selects RX9 yX9_hangTogether yX9_hangTogether ∈ wsG := inS 57 (by decide +kernel) (by decide +kernel)
theorem g_699 : Cond.code yX9_isFollowing cX9_isFollowing 4 (some .boolean) ∈ wsG := inG 1217 (by decide +kernel) (by decide +kernel)
theorem g_700 : Cond.methodLink RX9 294 yX9_isFollowing ∈ wsG := inG 1214 (by decide +kernel) (by decide +kernel)
theorem g_701 : Cond.instanceMethod yX9_isFollowing ∈ wsG := inG 1216 (by decide +kernel) (by decide +kernel)
theorem g_702 : Cond.selects RX9 yX9_isFollowing yX9_isFollowing ∈ wsG := inS 56 (by decide +kernel) (by decide +kernel)
theorem g_703 : Cond.code yX9_firstFollowing cX9_firstFollowing 2 (some .int) ∈ wsG := inG 1213 (by decide +kernel) (by decide +kernel)
theorem g_704 : Cond.methodLink RX9 297 yX9_firstFollowing ∈ wsG := inG 1210 (by decide +kernel) (by decide +kernel)
theorem g_705 : Cond.instanceMethod yX9_firstFollowing ∈ wsG := inG 1212 (by decide +kernel) (by decide +kernel)
theorem g_706 : Cond.selects RX9 yX9_firstFollowing yX9_firstFollowing ∈ wsG := inS 55 (by decide +kernel) (by decide +kernel)
theorem g_707 : Cond.code yX9_leastOf cX9_leastOf 6 (some .int) ∈ wsG := inG 1225 (by decide +kernel) (by decide +kernel)
theorem g_708 : Cond.methodLink RX9 301 yX9_leastOf ∈ wsG := inG 1222 (by decide +kernel) (by decide +kernel)
theorem g_709 : Cond.instanceMethod yX9_leastOf ∈ wsG := inG 1224 (by decide +kernel) (by decide +kernel)
theorem g_710 : Cond.selects RX9 yX9_leastOf yX9_leastOf ∈ wsG := inS 58 (by decide +kernel) (by decide +kernel)
theorem g_711 : Cond.constantLong RX9 304 (9223372036854775807) ∈ wsG := inG 1234 (by decide +kernel) (by decide +kernel)
theorem g_712 : Cond.code yX9_areLike cX9_areLike 7 (some .boolean) ∈ wsG := inG 1258 (by decide +kernel) (by decide +kernel)
theorem g_713 : Cond.methodLink RX9 306 yX9_areLike ∈ wsG := inG 1255 (by decide +kernel) (by decide +kernel)
theorem g_714 : Cond.instanceMethod yX9_areLike ∈ wsG := inG 1257 (by decide +kernel) (by decide +kernel)
theorem g_715 : Cond.selects RX9 yX9_areLike yX9_areLike ∈ wsG := inS 61 (by decide +kernel) (by decide +kernel)
theorem g_716 : Cond.code yX9_areDouble cX9_areDouble 7 (some .boolean) ∈ wsG := inG 1254 (by decide +kernel) (by decide +kernel)
theorem g_717 : Cond.methodLink RX9 310 yX9_areDouble ∈ wsG := inG 1251 (by decide +kernel) (by decide +kernel)
theorem g_718 : Cond.instanceMethod yX9_areDouble ∈ wsG := inG 1253 (by decide +kernel) (by decide +kernel)
theorem g_719 : Cond.selects RX9 yX9_areDouble yX9_areDouble ∈ wsG := inS 60 (by decide +kernel) (by decide +kernel)
theorem g_720 : Cond.code yX9_countDoubles cX9_countDoubles 5 (some .int) ∈ wsG := inG 1250 (by decide +kernel) (by decide +kernel)
theorem g_721 : Cond.methodLink RX9 313 yX9_countDoubles ∈ wsG := inG 1247 (by decide +kernel) (by decide +kernel)
theorem g_722 : Cond.instanceMethod yX9_countDoubles ∈ wsG := inG 1249 (by decide +kernel) (by decide +kernel)
theorem g_723 : Cond.selects RX9 yX9_countDoubles yX9_countDoubles ∈ wsG := inS 59 (by decide +kernel) (by decide +kernel)
theorem g_724 : Cond.fieldLink RX9 316 (cT 9 30).1 (cT 9 30).2.1 (cT 9 30).2.2.1 ∈ wsG := inG 859 (by decide +kernel) (by decide +kernel)
theorem g_725 : Cond.code yX9_personsThen cX9_personsThen 4 (some .int) ∈ wsG := inG 1282 (by decide +kernel) (by decide +kernel)
theorem g_726 : Cond.methodLink RX9 322 yX9_personsThen ∈ wsG := inG 1279 (by decide +kernel) (by decide +kernel)
theorem g_727 : Cond.instanceMethod yX9_personsThen ∈ wsG := inG 1281 (by decide +kernel) (by decide +kernel)
theorem g_728 : Cond.selects RX9 yX9_personsThen yX9_personsThen ∈ wsG := inS 64 (by decide +kernel) (by decide +kernel)
theorem g_729 : Cond.code yX9_isEdition cX9_isEdition 2 (some .boolean) ∈ wsG := inG 1278 (by decide +kernel) (by decide +kernel)
theorem g_730 : Cond.methodLink RX9 319 yX9_isEdition ∈ wsG := inG 1275 (by decide +kernel) (by decide +kernel)
theorem g_731 : Cond.instanceMethod yX9_isEdition ∈ wsG := inG 1277 (by decide +kernel) (by decide +kernel)
theorem g_732 : Cond.selects RX9 yX9_isEdition yX9_isEdition ∈ wsG := inS 63 (by decide +kernel) (by decide +kernel)
theorem g_733 : Cond.code yX9_isFrozen cX9_isFrozen 5 (some .boolean) ∈ wsG := inG 1274 (by decide +kernel) (by decide +kernel)
theorem g_734 : Cond.methodLink RX9 325 yX9_isFrozen ∈ wsG := inG 1271 (by decide +kernel) (by decide +kernel)
theorem g_735 : Cond.instanceMethod yX9_isFrozen ∈ wsG := inG 1273 (by decide +kernel) (by decide +kernel)
theorem g_736 : Cond.selects RX9 yX9_isFrozen yX9_isFrozen ∈ wsG := inS 62 (by decide +kernel) (by decide +kernel)
theorem g_737 : Cond.code yX9_isChanged cX9_isChanged 8 (some .boolean) ∈ wsG := inG 1298 (by decide +kernel) (by decide +kernel)
theorem g_738 : Cond.methodLink RX9 328 yX9_isChanged ∈ wsG := inG 1295 (by decide +kernel) (by decide +kernel)
theorem g_739 : Cond.instanceMethod yX9_isChanged ∈ wsG := inG 1297 (by decide +kernel) (by decide +kernel)
theorem g_740 : Cond.selects RX9 yX9_isChanged yX9_isChanged ∈ wsG := inS 66 (by decide +kernel) (by decide +kernel)
theorem g_741 : Cond.code yX9_countChanges cX9_countChanges 13 (some .int) ∈ wsG := inG 1294 (by decide +kernel) (by decide +kernel)
theorem g_742 : Cond.methodLink RX9 332 yX9_countChanges ∈ wsG := inG 1291 (by decide +kernel) (by decide +kernel)
theorem g_743 : Cond.instanceMethod yX9_countChanges ∈ wsG := inG 1293 (by decide +kernel) (by decide +kernel)
theorem g_744 : Cond.selects RX9 yX9_countChanges yX9_countChanges ∈ wsG := inS 65 (by decide +kernel) (by decide +kernel)
theorem hd_X0_init : yX0_init.cls ≠ "java/lang/invoke/MethodHandle" ∧ yX0_init.cls ≠ "java/lang/invoke/VarHandle" ∧ (parseMethodDescriptor yX0_init.desc).map (fun d => d.parameters.length) = some 7 := by decide +kernel
theorem hd_X0_fits : yX0_fits.cls ≠ "java/lang/invoke/MethodHandle" ∧ yX0_fits.cls ≠ "java/lang/invoke/VarHandle" ∧ (parseMethodDescriptor yX0_fits.desc).map (fun d => d.parameters.length) = some 3 := by decide +kernel
theorem hd_X1_init : yX1_init.cls ≠ "java/lang/invoke/MethodHandle" ∧ yX1_init.cls ≠ "java/lang/invoke/VarHandle" ∧ (parseMethodDescriptor yX1_init.desc).map (fun d => d.parameters.length) = some 2 := by decide +kernel
theorem hd_X2_init : yX2_init.cls ≠ "java/lang/invoke/MethodHandle" ∧ yX2_init.cls ≠ "java/lang/invoke/VarHandle" ∧ (parseMethodDescriptor yX2_init.desc).map (fun d => d.parameters.length) = some 0 := by decide +kernel
theorem hd_X2_start : yX2_start.cls ≠ "java/lang/invoke/MethodHandle" ∧ yX2_start.cls ≠ "java/lang/invoke/VarHandle" ∧ (parseMethodDescriptor yX2_start.desc).map (fun d => d.parameters.length) = some 1 := by decide +kernel
theorem hd_X2_meet : yX2_meet.cls ≠ "java/lang/invoke/MethodHandle" ∧ yX2_meet.cls ≠ "java/lang/invoke/VarHandle" ∧ (parseMethodDescriptor yX2_meet.desc).map (fun d => d.parameters.length) = some 3 := by decide +kernel
theorem hd_X2_told : yX2_told.cls ≠ "java/lang/invoke/MethodHandle" ∧ yX2_told.cls ≠ "java/lang/invoke/VarHandle" ∧ (parseMethodDescriptor yX2_told.desc).map (fun d => d.parameters.length) = some 3 := by decide +kernel
theorem hd_X3_init : yX3_init.cls ≠ "java/lang/invoke/MethodHandle" ∧ yX3_init.cls ≠ "java/lang/invoke/VarHandle" ∧ (parseMethodDescriptor yX3_init.desc).map (fun d => d.parameters.length) = some 0 := by decide +kernel
theorem hd_X3_questionOf : yX3_questionOf.cls ≠ "java/lang/invoke/MethodHandle" ∧ yX3_questionOf.cls ≠ "java/lang/invoke/VarHandle" ∧ (parseMethodDescriptor yX3_questionOf.desc).map (fun d => d.parameters.length) = some 1 := by decide +kernel
theorem hd_X3_conditionOf : yX3_conditionOf.cls ≠ "java/lang/invoke/MethodHandle" ∧ yX3_conditionOf.cls ≠ "java/lang/invoke/VarHandle" ∧ (parseMethodDescriptor yX3_conditionOf.desc).map (fun d => d.parameters.length) = some 1 := by decide +kernel
theorem hd_X3_questionsAreFull : yX3_questionsAreFull.cls ≠ "java/lang/invoke/MethodHandle" ∧ yX3_questionsAreFull.cls ≠ "java/lang/invoke/VarHandle" ∧ (parseMethodDescriptor yX3_questionsAreFull.desc).map (fun d => d.parameters.length) = some 0 := by decide +kernel
theorem hd_X3_conditionsAreFull : yX3_conditionsAreFull.cls ≠ "java/lang/invoke/MethodHandle" ∧ yX3_conditionsAreFull.cls ≠ "java/lang/invoke/VarHandle" ∧ (parseMethodDescriptor yX3_conditionsAreFull.desc).map (fun d => d.parameters.length) = some 1 := by decide +kernel
theorem hd_X3_addStep : yX3_addStep.cls ≠ "java/lang/invoke/MethodHandle" ∧ yX3_addStep.cls ≠ "java/lang/invoke/VarHandle" ∧ (parseMethodDescriptor yX3_addStep.desc).map (fun d => d.parameters.length) = some 1 := by decide +kernel
theorem hd_X3_addQuestion : yX3_addQuestion.cls ≠ "java/lang/invoke/MethodHandle" ∧ yX3_addQuestion.cls ≠ "java/lang/invoke/VarHandle" ∧ (parseMethodDescriptor yX3_addQuestion.desc).map (fun d => d.parameters.length) = some 1 := by decide +kernel
theorem hd_X3_addCondition : yX3_addCondition.cls ≠ "java/lang/invoke/MethodHandle" ∧ yX3_addCondition.cls ≠ "java/lang/invoke/VarHandle" ∧ (parseMethodDescriptor yX3_addCondition.desc).map (fun d => d.parameters.length) = some 1 := by decide +kernel
theorem hd_X3_hasMarked : yX3_hasMarked.cls ≠ "java/lang/invoke/MethodHandle" ∧ yX3_hasMarked.cls ≠ "java/lang/invoke/VarHandle" ∧ (parseMethodDescriptor yX3_hasMarked.desc).map (fun d => d.parameters.length) = some 0 := by decide +kernel
theorem hd_X8_spot : yX8_spot.cls ≠ "java/lang/invoke/MethodHandle" ∧ yX8_spot.cls ≠ "java/lang/invoke/VarHandle" ∧ (parseMethodDescriptor yX8_spot.desc).map (fun d => d.parameters.length) = some 2 := by decide +kernel
theorem hd_X6_persons : yX6_persons.cls ≠ "java/lang/invoke/MethodHandle" ∧ yX6_persons.cls ≠ "java/lang/invoke/VarHandle" ∧ (parseMethodDescriptor yX6_persons.desc).map (fun d => d.parameters.length) = some 1 := by decide +kernel
theorem hd_X8_placesOf : yX8_placesOf.cls ≠ "java/lang/invoke/MethodHandle" ∧ yX8_placesOf.cls ≠ "java/lang/invoke/VarHandle" ∧ (parseMethodDescriptor yX8_placesOf.desc).map (fun d => d.parameters.length) = some 2 := by decide +kernel
theorem hd_X5_rowAround : yX5_rowAround.cls ≠ "java/lang/invoke/MethodHandle" ∧ yX5_rowAround.cls ≠ "java/lang/invoke/VarHandle" ∧ (parseMethodDescriptor yX5_rowAround.desc).map (fun d => d.parameters.length) = some 1 := by decide +kernel
theorem hd_X6_lack : yX6_lack.cls ≠ "java/lang/invoke/MethodHandle" ∧ yX6_lack.cls ≠ "java/lang/invoke/VarHandle" ∧ (parseMethodDescriptor yX6_lack.desc).map (fun d => d.parameters.length) = some 2 := by decide +kernel
theorem hd_X6_put : yX6_put.cls ≠ "java/lang/invoke/MethodHandle" ∧ yX6_put.cls ≠ "java/lang/invoke/VarHandle" ∧ (parseMethodDescriptor yX6_put.desc).map (fun d => d.parameters.length) = some 2 := by decide +kernel
theorem hd_X3_makeMapped : yX3_makeMapped.cls ≠ "java/lang/invoke/MethodHandle" ∧ yX3_makeMapped.cls ≠ "java/lang/invoke/VarHandle" ∧ (parseMethodDescriptor yX3_makeMapped.desc).map (fun d => d.parameters.length) = some 2 := by decide +kernel
theorem hd_X3_makeSum : yX3_makeSum.cls ≠ "java/lang/invoke/MethodHandle" ∧ yX3_makeSum.cls ≠ "java/lang/invoke/VarHandle" ∧ (parseMethodDescriptor yX3_makeSum.desc).map (fun d => d.parameters.length) = some 2 := by decide +kernel
theorem hd_J6_bitCount_0f7a4 : yJ6_bitCount_0f7a4.cls ≠ "java/lang/invoke/MethodHandle" ∧ yJ6_bitCount_0f7a4.cls ≠ "java/lang/invoke/VarHandle" ∧ (parseMethodDescriptor yJ6_bitCount_0f7a4.desc).map (fun d => d.parameters.length) = some 1 := by decide +kernel
theorem hd_X3_makeAnswers : yX3_makeAnswers.cls ≠ "java/lang/invoke/MethodHandle" ∧ yX3_makeAnswers.cls ≠ "java/lang/invoke/VarHandle" ∧ (parseMethodDescriptor yX3_makeAnswers.desc).map (fun d => d.parameters.length) = some 2 := by decide +kernel
theorem hd_X3_spread : yX3_spread.cls ≠ "java/lang/invoke/MethodHandle" ∧ yX3_spread.cls ≠ "java/lang/invoke/VarHandle" ∧ (parseMethodDescriptor yX3_spread.desc).map (fun d => d.parameters.length) = some 3 := by decide +kernel
theorem hd_X3_bitsOfAsk : yX3_bitsOfAsk.cls ≠ "java/lang/invoke/MethodHandle" ∧ yX3_bitsOfAsk.cls ≠ "java/lang/invoke/VarHandle" ∧ (parseMethodDescriptor yX3_bitsOfAsk.desc).map (fun d => d.parameters.length) = some 2 := by decide +kernel
theorem hd_X3_makeTruths : yX3_makeTruths.cls ≠ "java/lang/invoke/MethodHandle" ∧ yX3_makeTruths.cls ≠ "java/lang/invoke/VarHandle" ∧ (parseMethodDescriptor yX3_makeTruths.desc).map (fun d => d.parameters.length) = some 2 := by decide +kernel
theorem hd_X3_settle : yX3_settle.cls ≠ "java/lang/invoke/MethodHandle" ∧ yX3_settle.cls ≠ "java/lang/invoke/VarHandle" ∧ (parseMethodDescriptor yX3_settle.desc).map (fun d => d.parameters.length) = some 1 := by decide +kernel
theorem hd_J7_fill_53178 : yJ7_fill_53178.cls ≠ "java/lang/invoke/MethodHandle" ∧ yJ7_fill_53178.cls ≠ "java/lang/invoke/VarHandle" ∧ (parseMethodDescriptor yJ7_fill_53178.desc).map (fun d => d.parameters.length) = some 2 := by decide +kernel
theorem hd_X6_init : yX6_init.cls ≠ "java/lang/invoke/MethodHandle" ∧ yX6_init.cls ≠ "java/lang/invoke/VarHandle" ∧ (parseMethodDescriptor yX6_init.desc).map (fun d => d.parameters.length) = some 0 := by decide +kernel
theorem hd_X4_init : yX4_init.cls ≠ "java/lang/invoke/MethodHandle" ∧ yX4_init.cls ≠ "java/lang/invoke/VarHandle" ∧ (parseMethodDescriptor yX4_init.desc).map (fun d => d.parameters.length) = some 0 := by decide +kernel
theorem hd_X4_unsettle : yX4_unsettle.cls ≠ "java/lang/invoke/MethodHandle" ∧ yX4_unsettle.cls ≠ "java/lang/invoke/VarHandle" ∧ (parseMethodDescriptor yX4_unsettle.desc).map (fun d => d.parameters.length) = some 1 := by decide +kernel
theorem hd_X4_isSo : yX4_isSo.cls ≠ "java/lang/invoke/MethodHandle" ∧ yX4_isSo.cls ≠ "java/lang/invoke/VarHandle" ∧ (parseMethodDescriptor yX4_isSo.desc).map (fun d => d.parameters.length) = some 3 := by decide +kernel
theorem hd_X5_init : yX5_init.cls ≠ "java/lang/invoke/MethodHandle" ∧ yX5_init.cls ≠ "java/lang/invoke/VarHandle" ∧ (parseMethodDescriptor yX5_init.desc).map (fun d => d.parameters.length) = some 4 := by decide +kernel
theorem hd_X5_codeIndex : yX5_codeIndex.cls ≠ "java/lang/invoke/MethodHandle" ∧ yX5_codeIndex.cls ≠ "java/lang/invoke/VarHandle" ∧ (parseMethodDescriptor yX5_codeIndex.desc).map (fun d => d.parameters.length) = some 1 := by decide +kernel
theorem hd_X5_addCode : yX5_addCode.cls ≠ "java/lang/invoke/MethodHandle" ∧ yX5_addCode.cls ≠ "java/lang/invoke/VarHandle" ∧ (parseMethodDescriptor yX5_addCode.desc).map (fun d => d.parameters.length) = some 1 := by decide +kernel
theorem hd_X5_addRow : yX5_addRow.cls ≠ "java/lang/invoke/MethodHandle" ∧ yX5_addRow.cls ≠ "java/lang/invoke/VarHandle" ∧ (parseMethodDescriptor yX5_addRow.desc).map (fun d => d.parameters.length) = some 3 := by decide +kernel
theorem hd_X5_takes : yX5_takes.cls ≠ "java/lang/invoke/MethodHandle" ∧ yX5_takes.cls ≠ "java/lang/invoke/VarHandle" ∧ (parseMethodDescriptor yX5_takes.desc).map (fun d => d.parameters.length) = some 1 := by decide +kernel
theorem hd_X5_makesLines : yX5_makesLines.cls ≠ "java/lang/invoke/MethodHandle" ∧ yX5_makesLines.cls ≠ "java/lang/invoke/VarHandle" ∧ (parseMethodDescriptor yX5_makesLines.desc).map (fun d => d.parameters.length) = some 0 := by decide +kernel
theorem hd_X5_lineOf : yX5_lineOf.cls ≠ "java/lang/invoke/MethodHandle" ∧ yX5_lineOf.cls ≠ "java/lang/invoke/VarHandle" ∧ (parseMethodDescriptor yX5_lineOf.desc).map (fun d => d.parameters.length) = some 2 := by decide +kernel
theorem hd_X6_init_ : yX6_init_.cls ≠ "java/lang/invoke/MethodHandle" ∧ yX6_init_.cls ≠ "java/lang/invoke/VarHandle" ∧ (parseMethodDescriptor yX6_init_.desc).map (fun d => d.parameters.length) = some 2 := by decide +kernel
theorem hd_X6_isLike : yX6_isLike.cls ≠ "java/lang/invoke/MethodHandle" ∧ yX6_isLike.cls ≠ "java/lang/invoke/VarHandle" ∧ (parseMethodDescriptor yX6_isLike.desc).map (fun d => d.parameters.length) = some 2 := by decide +kernel
theorem hd_X6_takeFrom : yX6_takeFrom.cls ≠ "java/lang/invoke/MethodHandle" ∧ yX6_takeFrom.cls ≠ "java/lang/invoke/VarHandle" ∧ (parseMethodDescriptor yX6_takeFrom.desc).map (fun d => d.parameters.length) = some 2 := by decide +kernel
theorem hd_X7_init : yX7_init.cls ≠ "java/lang/invoke/MethodHandle" ∧ yX7_init.cls ≠ "java/lang/invoke/VarHandle" ∧ (parseMethodDescriptor yX7_init.desc).map (fun d => d.parameters.length) = some 0 := by decide +kernel
theorem hd_J7_fill_d0a16 : yJ7_fill_d0a16.cls ≠ "java/lang/invoke/MethodHandle" ∧ yJ7_fill_d0a16.cls ≠ "java/lang/invoke/VarHandle" ∧ (parseMethodDescriptor yJ7_fill_d0a16.desc).map (fun d => d.parameters.length) = some 2 := by decide +kernel
theorem hd_X7_holdNone : yX7_holdNone.cls ≠ "java/lang/invoke/MethodHandle" ∧ yX7_holdNone.cls ≠ "java/lang/invoke/VarHandle" ∧ (parseMethodDescriptor yX7_holdNone.desc).map (fun d => d.parameters.length) = some 0 := by decide +kernel
theorem hd_X7_start : yX7_start.cls ≠ "java/lang/invoke/MethodHandle" ∧ yX7_start.cls ≠ "java/lang/invoke/VarHandle" ∧ (parseMethodDescriptor yX7_start.desc).map (fun d => d.parameters.length) = some 3 := by decide +kernel
theorem hd_X7_isNone : yX7_isNone.cls ≠ "java/lang/invoke/MethodHandle" ∧ yX7_isNone.cls ≠ "java/lang/invoke/VarHandle" ∧ (parseMethodDescriptor yX7_isNone.desc).map (fun d => d.parameters.length) = some 0 := by decide +kernel
theorem hd_X7_cells : yX7_cells.cls ≠ "java/lang/invoke/MethodHandle" ∧ yX7_cells.cls ≠ "java/lang/invoke/VarHandle" ∧ (parseMethodDescriptor yX7_cells.desc).map (fun d => d.parameters.length) = some 0 := by decide +kernel
theorem hd_X7_hasCell : yX7_hasCell.cls ≠ "java/lang/invoke/MethodHandle" ∧ yX7_hasCell.cls ≠ "java/lang/invoke/VarHandle" ∧ (parseMethodDescriptor yX7_hasCell.desc).map (fun d => d.parameters.length) = some 2 := by decide +kernel
theorem hd_X7_at : yX7_at.cls ≠ "java/lang/invoke/MethodHandle" ∧ yX7_at.cls ≠ "java/lang/invoke/VarHandle" ∧ (parseMethodDescriptor yX7_at.desc).map (fun d => d.parameters.length) = some 2 := by decide +kernel
theorem hd_X7_add : yX7_add.cls ≠ "java/lang/invoke/MethodHandle" ∧ yX7_add.cls ≠ "java/lang/invoke/VarHandle" ∧ (parseMethodDescriptor yX7_add.desc).map (fun d => d.parameters.length) = some 3 := by decide +kernel
theorem hd_X7_giveOneMore : yX7_giveOneMore.cls ≠ "java/lang/invoke/MethodHandle" ∧ yX7_giveOneMore.cls ≠ "java/lang/invoke/VarHandle" ∧ (parseMethodDescriptor yX7_giveOneMore.desc).map (fun d => d.parameters.length) = some 0 := by decide +kernel
theorem hd_X7_reckonShares : yX7_reckonShares.cls ≠ "java/lang/invoke/MethodHandle" ∧ yX7_reckonShares.cls ≠ "java/lang/invoke/VarHandle" ∧ (parseMethodDescriptor yX7_reckonShares.desc).map (fun d => d.parameters.length) = some 1 := by decide +kernel
theorem hd_X7_isHeld : yX7_isHeld.cls ≠ "java/lang/invoke/MethodHandle" ∧ yX7_isHeld.cls ≠ "java/lang/invoke/VarHandle" ∧ (parseMethodDescriptor yX7_isHeld.desc).map (fun d => d.parameters.length) = some 2 := by decide +kernel
theorem hd_X7_hold : yX7_hold.cls ≠ "java/lang/invoke/MethodHandle" ∧ yX7_hold.cls ≠ "java/lang/invoke/VarHandle" ∧ (parseMethodDescriptor yX7_hold.desc).map (fun d => d.parameters.length) = some 2 := by decide +kernel
theorem hd_X7_holdBelow : yX7_holdBelow.cls ≠ "java/lang/invoke/MethodHandle" ∧ yX7_holdBelow.cls ≠ "java/lang/invoke/VarHandle" ∧ (parseMethodDescriptor yX7_holdBelow.desc).map (fun d => d.parameters.length) = some 1 := by decide +kernel
theorem hd_X7_isFree : yX7_isFree.cls ≠ "java/lang/invoke/MethodHandle" ∧ yX7_isFree.cls ≠ "java/lang/invoke/VarHandle" ∧ (parseMethodDescriptor yX7_isFree.desc).map (fun d => d.parameters.length) = some 2 := by decide +kernel
theorem hd_X7_firstFollowing : yX7_firstFollowing.cls ≠ "java/lang/invoke/MethodHandle" ∧ yX7_firstFollowing.cls ≠ "java/lang/invoke/VarHandle" ∧ (parseMethodDescriptor yX7_firstFollowing.desc).map (fun d => d.parameters.length) = some 0 := by decide +kernel
theorem hd_X7_leastOpen : yX7_leastOpen.cls ≠ "java/lang/invoke/MethodHandle" ∧ yX7_leastOpen.cls ≠ "java/lang/invoke/VarHandle" ∧ (parseMethodDescriptor yX7_leastOpen.desc).map (fun d => d.parameters.length) = some 4 := by decide +kernel
theorem hd_X7_coverFor : yX7_coverFor.cls ≠ "java/lang/invoke/MethodHandle" ∧ yX7_coverFor.cls ≠ "java/lang/invoke/VarHandle" ∧ (parseMethodDescriptor yX7_coverFor.desc).map (fun d => d.parameters.length) = some 2 := by decide +kernel
theorem hd_X7_holdUntilNoneFollows : yX7_holdUntilNoneFollows.cls ≠ "java/lang/invoke/MethodHandle" ∧ yX7_holdUntilNoneFollows.cls ≠ "java/lang/invoke/VarHandle" ∧ (parseMethodDescriptor yX7_holdUntilNoneFollows.desc).map (fun d => d.parameters.length) = some 0 := by decide +kernel
theorem hd_X8_init : yX8_init.cls ≠ "java/lang/invoke/MethodHandle" ∧ yX8_init.cls ≠ "java/lang/invoke/VarHandle" ∧ (parseMethodDescriptor yX8_init.desc).map (fun d => d.parameters.length) = some 0 := by decide +kernel
theorem hd_X8_emptyEverywhere : yX8_emptyEverywhere.cls ≠ "java/lang/invoke/MethodHandle" ∧ yX8_emptyEverywhere.cls ≠ "java/lang/invoke/VarHandle" ∧ (parseMethodDescriptor yX8_emptyEverywhere.desc).map (fun d => d.parameters.length) = some 1 := by decide +kernel
theorem hd_X8_question : yX8_question.cls ≠ "java/lang/invoke/MethodHandle" ∧ yX8_question.cls ≠ "java/lang/invoke/VarHandle" ∧ (parseMethodDescriptor yX8_question.desc).map (fun d => d.parameters.length) = some 2 := by decide +kernel
theorem hd_X8_isCode : yX8_isCode.cls ≠ "java/lang/invoke/MethodHandle" ∧ yX8_isCode.cls ≠ "java/lang/invoke/VarHandle" ∧ (parseMethodDescriptor yX8_isCode.desc).map (fun d => d.parameters.length) = some 1 := by decide +kernel
theorem hd_X8_code : yX8_code.cls ≠ "java/lang/invoke/MethodHandle" ∧ yX8_code.cls ≠ "java/lang/invoke/VarHandle" ∧ (parseMethodDescriptor yX8_code.desc).map (fun d => d.parameters.length) = some 2 := by decide +kernel
theorem hd_X8_map : yX8_map.cls ≠ "java/lang/invoke/MethodHandle" ∧ yX8_map.cls ≠ "java/lang/invoke/VarHandle" ∧ (parseMethodDescriptor yX8_map.desc).map (fun d => d.parameters.length) = some 1 := by decide +kernel
theorem hd_X8_row : yX8_row.cls ≠ "java/lang/invoke/MethodHandle" ∧ yX8_row.cls ≠ "java/lang/invoke/VarHandle" ∧ (parseMethodDescriptor yX8_row.desc).map (fun d => d.parameters.length) = some 4 := by decide +kernel
theorem hd_X8_howMany : yX8_howMany.cls ≠ "java/lang/invoke/MethodHandle" ∧ yX8_howMany.cls ≠ "java/lang/invoke/VarHandle" ∧ (parseMethodDescriptor yX8_howMany.desc).map (fun d => d.parameters.length) = some 2 := by decide +kernel
theorem hd_X8_sum : yX8_sum.cls ≠ "java/lang/invoke/MethodHandle" ∧ yX8_sum.cls ≠ "java/lang/invoke/VarHandle" ∧ (parseMethodDescriptor yX8_sum.desc).map (fun d => d.parameters.length) = some 1 := by decide +kernel
theorem hd_X8_of : yX8_of.cls ≠ "java/lang/invoke/MethodHandle" ∧ yX8_of.cls ≠ "java/lang/invoke/VarHandle" ∧ (parseMethodDescriptor yX8_of.desc).map (fun d => d.parameters.length) = some 2 := by decide +kernel
theorem hd_X8_codeAt : yX8_codeAt.cls ≠ "java/lang/invoke/MethodHandle" ∧ yX8_codeAt.cls ≠ "java/lang/invoke/VarHandle" ∧ (parseMethodDescriptor yX8_codeAt.desc).map (fun d => d.parameters.length) = some 2 := by decide +kernel
theorem hd_X8_household : yX8_household.cls ≠ "java/lang/invoke/MethodHandle" ∧ yX8_household.cls ≠ "java/lang/invoke/VarHandle" ∧ (parseMethodDescriptor yX8_household.desc).map (fun d => d.parameters.length) = some 0 := by decide +kernel
theorem hd_X8_homeOf : yX8_homeOf.cls ≠ "java/lang/invoke/MethodHandle" ∧ yX8_homeOf.cls ≠ "java/lang/invoke/VarHandle" ∧ (parseMethodDescriptor yX8_homeOf.desc).map (fun d => d.parameters.length) = some 1 := by decide +kernel
theorem hd_X8_isPlace : yX8_isPlace.cls ≠ "java/lang/invoke/MethodHandle" ∧ yX8_isPlace.cls ≠ "java/lang/invoke/VarHandle" ∧ (parseMethodDescriptor yX8_isPlace.desc).map (fun d => d.parameters.length) = some 3 := by decide +kernel
theorem hd_X8_dropPersons : yX8_dropPersons.cls ≠ "java/lang/invoke/MethodHandle" ∧ yX8_dropPersons.cls ≠ "java/lang/invoke/VarHandle" ∧ (parseMethodDescriptor yX8_dropPersons.desc).map (fun d => d.parameters.length) = some 3 := by decide +kernel
theorem hd_X8_answer : yX8_answer.cls ≠ "java/lang/invoke/MethodHandle" ∧ yX8_answer.cls ≠ "java/lang/invoke/VarHandle" ∧ (parseMethodDescriptor yX8_answer.desc).map (fun d => d.parameters.length) = some 4 := by decide +kernel
theorem hd_X8_missing : yX8_missing.cls ≠ "java/lang/invoke/MethodHandle" ∧ yX8_missing.cls ≠ "java/lang/invoke/VarHandle" ∧ (parseMethodDescriptor yX8_missing.desc).map (fun d => d.parameters.length) = some 4 := by decide +kernel
theorem hd_X8_settledSheet : yX8_settledSheet.cls ≠ "java/lang/invoke/MethodHandle" ∧ yX8_settledSheet.cls ≠ "java/lang/invoke/VarHandle" ∧ (parseMethodDescriptor yX8_settledSheet.desc).map (fun d => d.parameters.length) = some 3 := by decide +kernel
theorem hd_X8_value : yX8_value.cls ≠ "java/lang/invoke/MethodHandle" ∧ yX8_value.cls ≠ "java/lang/invoke/VarHandle" ∧ (parseMethodDescriptor yX8_value.desc).map (fun d => d.parameters.length) = some 3 := by decide +kernel
theorem hd_X8_reason : yX8_reason.cls ≠ "java/lang/invoke/MethodHandle" ∧ yX8_reason.cls ≠ "java/lang/invoke/VarHandle" ∧ (parseMethodDescriptor yX8_reason.desc).map (fun d => d.parameters.length) = some 3 := by decide +kernel
theorem hd_X8_personOf : yX8_personOf.cls ≠ "java/lang/invoke/MethodHandle" ∧ yX8_personOf.cls ≠ "java/lang/invoke/VarHandle" ∧ (parseMethodDescriptor yX8_personOf.desc).map (fun d => d.parameters.length) = some 2 := by decide +kernel
theorem hd_X8_ask : yX8_ask.cls ≠ "java/lang/invoke/MethodHandle" ∧ yX8_ask.cls ≠ "java/lang/invoke/VarHandle" ∧ (parseMethodDescriptor yX8_ask.desc).map (fun d => d.parameters.length) = some 3 := by decide +kernel
theorem hd_X8_logic : yX8_logic.cls ≠ "java/lang/invoke/MethodHandle" ∧ yX8_logic.cls ≠ "java/lang/invoke/VarHandle" ∧ (parseMethodDescriptor yX8_logic.desc).map (fun d => d.parameters.length) = some 3 := by decide +kernel
theorem hd_X8_some : yX8_some.cls ≠ "java/lang/invoke/MethodHandle" ∧ yX8_some.cls ≠ "java/lang/invoke/VarHandle" ∧ (parseMethodDescriptor yX8_some.desc).map (fun d => d.parameters.length) = some 2 := by decide +kernel
theorem hd_X8_holds : yX8_holds.cls ≠ "java/lang/invoke/MethodHandle" ∧ yX8_holds.cls ≠ "java/lang/invoke/VarHandle" ∧ (parseMethodDescriptor yX8_holds.desc).map (fun d => d.parameters.length) = some 3 := by decide +kernel
theorem hd_X8_filter : yX8_filter.cls ≠ "java/lang/invoke/MethodHandle" ∧ yX8_filter.cls ≠ "java/lang/invoke/VarHandle" ∧ (parseMethodDescriptor yX8_filter.desc).map (fun d => d.parameters.length) = some 2 := by decide +kernel
theorem hd_X8_isGiven : yX8_isGiven.cls ≠ "java/lang/invoke/MethodHandle" ∧ yX8_isGiven.cls ≠ "java/lang/invoke/VarHandle" ∧ (parseMethodDescriptor yX8_isGiven.desc).map (fun d => d.parameters.length) = some 3 := by decide +kernel
theorem hd_X8_meetAgainst : yX8_meetAgainst.cls ≠ "java/lang/invoke/MethodHandle" ∧ yX8_meetAgainst.cls ≠ "java/lang/invoke/VarHandle" ∧ (parseMethodDescriptor yX8_meetAgainst.desc).map (fun d => d.parameters.length) = some 2 := by decide +kernel
theorem hd_X8_findAgainst : yX8_findAgainst.cls ≠ "java/lang/invoke/MethodHandle" ∧ yX8_findAgainst.cls ≠ "java/lang/invoke/VarHandle" ∧ (parseMethodDescriptor yX8_findAgainst.desc).map (fun d => d.parameters.length) = some 1 := by decide +kernel
theorem hd_X8_against : yX8_against.cls ≠ "java/lang/invoke/MethodHandle" ∧ yX8_against.cls ≠ "java/lang/invoke/VarHandle" ∧ (parseMethodDescriptor yX8_against.desc).map (fun d => d.parameters.length) = some 0 := by decide +kernel
theorem hd_X8_againstAt : yX8_againstAt.cls ≠ "java/lang/invoke/MethodHandle" ∧ yX8_againstAt.cls ≠ "java/lang/invoke/VarHandle" ∧ (parseMethodDescriptor yX8_againstAt.desc).map (fun d => d.parameters.length) = some 2 := by decide +kernel
theorem hd_X8_weight : yX8_weight.cls ≠ "java/lang/invoke/MethodHandle" ∧ yX8_weight.cls ≠ "java/lang/invoke/VarHandle" ∧ (parseMethodDescriptor yX8_weight.desc).map (fun d => d.parameters.length) = some 3 := by decide +kernel
theorem hd_X8_table : yX8_table.cls ≠ "java/lang/invoke/MethodHandle" ∧ yX8_table.cls ≠ "java/lang/invoke/VarHandle" ∧ (parseMethodDescriptor yX8_table.desc).map (fun d => d.parameters.length) = some 2 := by decide +kernel
theorem hd_X8_cell : yX8_cell.cls ≠ "java/lang/invoke/MethodHandle" ∧ yX8_cell.cls ≠ "java/lang/invoke/VarHandle" ∧ (parseMethodDescriptor yX8_cell.desc).map (fun d => d.parameters.length) = some 3 := by decide +kernel
theorem hd_X8_shares : yX8_shares.cls ≠ "java/lang/invoke/MethodHandle" ∧ yX8_shares.cls ≠ "java/lang/invoke/VarHandle" ∧ (parseMethodDescriptor yX8_shares.desc).map (fun d => d.parameters.length) = some 1 := by decide +kernel
theorem hd_X8_share : yX8_share.cls ≠ "java/lang/invoke/MethodHandle" ∧ yX8_share.cls ≠ "java/lang/invoke/VarHandle" ∧ (parseMethodDescriptor yX8_share.desc).map (fun d => d.parameters.length) = some 2 := by decide +kernel
theorem hd_X8_shown : yX8_shown.cls ≠ "java/lang/invoke/MethodHandle" ∧ yX8_shown.cls ≠ "java/lang/invoke/VarHandle" ∧ (parseMethodDescriptor yX8_shown.desc).map (fun d => d.parameters.length) = some 1 := by decide +kernel
theorem hd_X8_follows : yX8_follows.cls ≠ "java/lang/invoke/MethodHandle" ∧ yX8_follows.cls ≠ "java/lang/invoke/VarHandle" ∧ (parseMethodDescriptor yX8_follows.desc).map (fun d => d.parameters.length) = some 0 := by decide +kernel
theorem hd_X8_heightOf : yX8_heightOf.cls ≠ "java/lang/invoke/MethodHandle" ∧ yX8_heightOf.cls ≠ "java/lang/invoke/VarHandle" ∧ (parseMethodDescriptor yX8_heightOf.desc).map (fun d => d.parameters.length) = some 2 := by decide +kernel
theorem hd_X8_insertRising : yX8_insertRising.cls ≠ "java/lang/invoke/MethodHandle" ∧ yX8_insertRising.cls ≠ "java/lang/invoke/VarHandle" ∧ (parseMethodDescriptor yX8_insertRising.desc).map (fun d => d.parameters.length) = some 3 := by decide +kernel
theorem hd_X8_sortRising : yX8_sortRising.cls ≠ "java/lang/invoke/MethodHandle" ∧ yX8_sortRising.cls ≠ "java/lang/invoke/VarHandle" ∧ (parseMethodDescriptor yX8_sortRising.desc).map (fun d => d.parameters.length) = some 2 := by decide +kernel
theorem hd_X8_missingAt : yX8_missingAt.cls ≠ "java/lang/invoke/MethodHandle" ∧ yX8_missingAt.cls ≠ "java/lang/invoke/VarHandle" ∧ (parseMethodDescriptor yX8_missingAt.desc).map (fun d => d.parameters.length) = some 2 := by decide +kernel
theorem hd_X8_rank : yX8_rank.cls ≠ "java/lang/invoke/MethodHandle" ∧ yX8_rank.cls ≠ "java/lang/invoke/VarHandle" ∧ (parseMethodDescriptor yX8_rank.desc).map (fun d => d.parameters.length) = some 2 := by decide +kernel
theorem hd_X8_part : yX8_part.cls ≠ "java/lang/invoke/MethodHandle" ∧ yX8_part.cls ≠ "java/lang/invoke/VarHandle" ∧ (parseMethodDescriptor yX8_part.desc).map (fun d => d.parameters.length) = some 4 := by decide +kernel
theorem hd_X8_mark : yX8_mark.cls ≠ "java/lang/invoke/MethodHandle" ∧ yX8_mark.cls ≠ "java/lang/invoke/VarHandle" ∧ (parseMethodDescriptor yX8_mark.desc).map (fun d => d.parameters.length) = some 2 := by decide +kernel
theorem hd_X8_areLikeIn : yX8_areLikeIn.cls ≠ "java/lang/invoke/MethodHandle" ∧ yX8_areLikeIn.cls ≠ "java/lang/invoke/VarHandle" ∧ (parseMethodDescriptor yX8_areLikeIn.desc).map (fun d => d.parameters.length) = some 3 := by decide +kernel
theorem hd_X8_areDoubles : yX8_areDoubles.cls ≠ "java/lang/invoke/MethodHandle" ∧ yX8_areDoubles.cls ≠ "java/lang/invoke/VarHandle" ∧ (parseMethodDescriptor yX8_areDoubles.desc).map (fun d => d.parameters.length) = some 2 := by decide +kernel
theorem hd_X8_findDoubles : yX8_findDoubles.cls ≠ "java/lang/invoke/MethodHandle" ∧ yX8_findDoubles.cls ≠ "java/lang/invoke/VarHandle" ∧ (parseMethodDescriptor yX8_findDoubles.desc).map (fun d => d.parameters.length) = some 1 := by decide +kernel
theorem hd_X8_doubles : yX8_doubles.cls ≠ "java/lang/invoke/MethodHandle" ∧ yX8_doubles.cls ≠ "java/lang/invoke/VarHandle" ∧ (parseMethodDescriptor yX8_doubles.desc).map (fun d => d.parameters.length) = some 0 := by decide +kernel
theorem hd_X8_doubleAt : yX8_doubleAt.cls ≠ "java/lang/invoke/MethodHandle" ∧ yX8_doubleAt.cls ≠ "java/lang/invoke/VarHandle" ∧ (parseMethodDescriptor yX8_doubleAt.desc).map (fun d => d.parameters.length) = some 2 := by decide +kernel
theorem hd_X8_freeze : yX8_freeze.cls ≠ "java/lang/invoke/MethodHandle" ∧ yX8_freeze.cls ≠ "java/lang/invoke/VarHandle" ∧ (parseMethodDescriptor yX8_freeze.desc).map (fun d => d.parameters.length) = some 0 := by decide +kernel
theorem hd_X8_editionOf : yX8_editionOf.cls ≠ "java/lang/invoke/MethodHandle" ∧ yX8_editionOf.cls ≠ "java/lang/invoke/VarHandle" ∧ (parseMethodDescriptor yX8_editionOf.desc).map (fun d => d.parameters.length) = some 1 := by decide +kernel
theorem hd_X8_frozenSheet : yX8_frozenSheet.cls ≠ "java/lang/invoke/MethodHandle" ∧ yX8_frozenSheet.cls ≠ "java/lang/invoke/VarHandle" ∧ (parseMethodDescriptor yX8_frozenSheet.desc).map (fun d => d.parameters.length) = some 4 := by decide +kernel
theorem hd_X8_frozen : yX8_frozen.cls ≠ "java/lang/invoke/MethodHandle" ∧ yX8_frozen.cls ≠ "java/lang/invoke/VarHandle" ∧ (parseMethodDescriptor yX8_frozen.desc).map (fun d => d.parameters.length) = some 4 := by decide +kernel
theorem hd_X8_frozenReason : yX8_frozenReason.cls ≠ "java/lang/invoke/MethodHandle" ∧ yX8_frozenReason.cls ≠ "java/lang/invoke/VarHandle" ∧ (parseMethodDescriptor yX8_frozenReason.desc).map (fun d => d.parameters.length) = some 4 := by decide +kernel
theorem hd_X8_meetChanges : yX8_meetChanges.cls ≠ "java/lang/invoke/MethodHandle" ∧ yX8_meetChanges.cls ≠ "java/lang/invoke/VarHandle" ∧ (parseMethodDescriptor yX8_meetChanges.desc).map (fun d => d.parameters.length) = some 4 := by decide +kernel
theorem hd_X8_findChanges : yX8_findChanges.cls ≠ "java/lang/invoke/MethodHandle" ∧ yX8_findChanges.cls ≠ "java/lang/invoke/VarHandle" ∧ (parseMethodDescriptor yX8_findChanges.desc).map (fun d => d.parameters.length) = some 3 := by decide +kernel
theorem hd_X8_changes : yX8_changes.cls ≠ "java/lang/invoke/MethodHandle" ∧ yX8_changes.cls ≠ "java/lang/invoke/VarHandle" ∧ (parseMethodDescriptor yX8_changes.desc).map (fun d => d.parameters.length) = some 2 := by decide +kernel
theorem hd_X8_changeAt : yX8_changeAt.cls ≠ "java/lang/invoke/MethodHandle" ∧ yX8_changeAt.cls ≠ "java/lang/invoke/VarHandle" ∧ (parseMethodDescriptor yX8_changeAt.desc).map (fun d => d.parameters.length) = some 4 := by decide +kernel
theorem hd_X8_bringBack : yX8_bringBack.cls ≠ "java/lang/invoke/MethodHandle" ∧ yX8_bringBack.cls ≠ "java/lang/invoke/VarHandle" ∧ (parseMethodDescriptor yX8_bringBack.desc).map (fun d => d.parameters.length) = some 2 := by decide +kernel
theorem hd_X8_merge : yX8_merge.cls ≠ "java/lang/invoke/MethodHandle" ∧ yX8_merge.cls ≠ "java/lang/invoke/VarHandle" ∧ (parseMethodDescriptor yX8_merge.desc).map (fun d => d.parameters.length) = some 1 := by decide +kernel
theorem hd_X8_count : yX8_count.cls ≠ "java/lang/invoke/MethodHandle" ∧ yX8_count.cls ≠ "java/lang/invoke/VarHandle" ∧ (parseMethodDescriptor yX8_count.desc).map (fun d => d.parameters.length) = some 1 := by decide +kernel
theorem hd_X9_init : yX9_init.cls ≠ "java/lang/invoke/MethodHandle" ∧ yX9_init.cls ≠ "java/lang/invoke/VarHandle" ∧ (parseMethodDescriptor yX9_init.desc).map (fun d => d.parameters.length) = some 0 := by decide +kernel
theorem hd_X9_in : yX9_in.cls ≠ "java/lang/invoke/MethodHandle" ∧ yX9_in.cls ≠ "java/lang/invoke/VarHandle" ∧ (parseMethodDescriptor yX9_in.desc).map (fun d => d.parameters.length) = some 3 := by decide +kernel
theorem hd_X9_isQuestion : yX9_isQuestion.cls ≠ "java/lang/invoke/MethodHandle" ∧ yX9_isQuestion.cls ≠ "java/lang/invoke/VarHandle" ∧ (parseMethodDescriptor yX9_isQuestion.desc).map (fun d => d.parameters.length) = some 1 := by decide +kernel
theorem hd_X9_isHousehold : yX9_isHousehold.cls ≠ "java/lang/invoke/MethodHandle" ∧ yX9_isHousehold.cls ≠ "java/lang/invoke/VarHandle" ∧ (parseMethodDescriptor yX9_isHousehold.desc).map (fun d => d.parameters.length) = some 1 := by decide +kernel
theorem hd_X9_isCondition : yX9_isCondition.cls ≠ "java/lang/invoke/MethodHandle" ∧ yX9_isCondition.cls ≠ "java/lang/invoke/VarHandle" ∧ (parseMethodDescriptor yX9_isCondition.desc).map (fun d => d.parameters.length) = some 1 := by decide +kernel
theorem hd_X9_place : yX9_place.cls ≠ "java/lang/invoke/MethodHandle" ∧ yX9_place.cls ≠ "java/lang/invoke/VarHandle" ∧ (parseMethodDescriptor yX9_place.desc).map (fun d => d.parameters.length) = some 3 := by decide +kernel
theorem hd_X9_blank : yX9_blank.cls ≠ "java/lang/invoke/MethodHandle" ∧ yX9_blank.cls ≠ "java/lang/invoke/VarHandle" ∧ (parseMethodDescriptor yX9_blank.desc).map (fun d => d.parameters.length) = some 2 := by decide +kernel
theorem hd_X9_add : yX9_add.cls ≠ "java/lang/invoke/MethodHandle" ∧ yX9_add.cls ≠ "java/lang/invoke/VarHandle" ∧ (parseMethodDescriptor yX9_add.desc).map (fun d => d.parameters.length) = some 3 := by decide +kernel
theorem hd_X9_question : yX9_question.cls ≠ "java/lang/invoke/MethodHandle" ∧ yX9_question.cls ≠ "java/lang/invoke/VarHandle" ∧ (parseMethodDescriptor yX9_question.desc).map (fun d => d.parameters.length) = some 2 := by decide +kernel
theorem hd_X9_codeNumber : yX9_codeNumber.cls ≠ "java/lang/invoke/MethodHandle" ∧ yX9_codeNumber.cls ≠ "java/lang/invoke/VarHandle" ∧ (parseMethodDescriptor yX9_codeNumber.desc).map (fun d => d.parameters.length) = some 2 := by decide +kernel
theorem hd_X9_code : yX9_code.cls ≠ "java/lang/invoke/MethodHandle" ∧ yX9_code.cls ≠ "java/lang/invoke/VarHandle" ∧ (parseMethodDescriptor yX9_code.desc).map (fun d => d.parameters.length) = some 2 := by decide +kernel
theorem hd_X9_map : yX9_map.cls ≠ "java/lang/invoke/MethodHandle" ∧ yX9_map.cls ≠ "java/lang/invoke/VarHandle" ∧ (parseMethodDescriptor yX9_map.desc).map (fun d => d.parameters.length) = some 1 := by decide +kernel
theorem hd_X9_row : yX9_row.cls ≠ "java/lang/invoke/MethodHandle" ∧ yX9_row.cls ≠ "java/lang/invoke/VarHandle" ∧ (parseMethodDescriptor yX9_row.desc).map (fun d => d.parameters.length) = some 4 := by decide +kernel
theorem hd_X9_howMany : yX9_howMany.cls ≠ "java/lang/invoke/MethodHandle" ∧ yX9_howMany.cls ≠ "java/lang/invoke/VarHandle" ∧ (parseMethodDescriptor yX9_howMany.desc).map (fun d => d.parameters.length) = some 2 := by decide +kernel
theorem hd_X9_sum : yX9_sum.cls ≠ "java/lang/invoke/MethodHandle" ∧ yX9_sum.cls ≠ "java/lang/invoke/VarHandle" ∧ (parseMethodDescriptor yX9_sum.desc).map (fun d => d.parameters.length) = some 1 := by decide +kernel
theorem hd_X9_of : yX9_of.cls ≠ "java/lang/invoke/MethodHandle" ∧ yX9_of.cls ≠ "java/lang/invoke/VarHandle" ∧ (parseMethodDescriptor yX9_of.desc).map (fun d => d.parameters.length) = some 2 := by decide +kernel
theorem hd_X9_codeAt : yX9_codeAt.cls ≠ "java/lang/invoke/MethodHandle" ∧ yX9_codeAt.cls ≠ "java/lang/invoke/VarHandle" ∧ (parseMethodDescriptor yX9_codeAt.desc).map (fun d => d.parameters.length) = some 2 := by decide +kernel
theorem hd_X9_household : yX9_household.cls ≠ "java/lang/invoke/MethodHandle" ∧ yX9_household.cls ≠ "java/lang/invoke/VarHandle" ∧ (parseMethodDescriptor yX9_household.desc).map (fun d => d.parameters.length) = some 0 := by decide +kernel
theorem hd_X9_persons : yX9_persons.cls ≠ "java/lang/invoke/MethodHandle" ∧ yX9_persons.cls ≠ "java/lang/invoke/VarHandle" ∧ (parseMethodDescriptor yX9_persons.desc).map (fun d => d.parameters.length) = some 2 := by decide +kernel
theorem hd_X9_isPlace : yX9_isPlace.cls ≠ "java/lang/invoke/MethodHandle" ∧ yX9_isPlace.cls ≠ "java/lang/invoke/VarHandle" ∧ (parseMethodDescriptor yX9_isPlace.desc).map (fun d => d.parameters.length) = some 3 := by decide +kernel
theorem hd_X9_isValue : yX9_isValue.cls ≠ "java/lang/invoke/MethodHandle" ∧ yX9_isValue.cls ≠ "java/lang/invoke/VarHandle" ∧ (parseMethodDescriptor yX9_isValue.desc).map (fun d => d.parameters.length) = some 2 := by decide +kernel
theorem hd_X9_people : yX9_people.cls ≠ "java/lang/invoke/MethodHandle" ∧ yX9_people.cls ≠ "java/lang/invoke/VarHandle" ∧ (parseMethodDescriptor yX9_people.desc).map (fun d => d.parameters.length) = some 3 := by decide +kernel
theorem hd_X9_answer : yX9_answer.cls ≠ "java/lang/invoke/MethodHandle" ∧ yX9_answer.cls ≠ "java/lang/invoke/VarHandle" ∧ (parseMethodDescriptor yX9_answer.desc).map (fun d => d.parameters.length) = some 4 := by decide +kernel
theorem hd_X9_missing : yX9_missing.cls ≠ "java/lang/invoke/MethodHandle" ∧ yX9_missing.cls ≠ "java/lang/invoke/VarHandle" ∧ (parseMethodDescriptor yX9_missing.desc).map (fun d => d.parameters.length) = some 4 := by decide +kernel
theorem hd_X9_told : yX9_told.cls ≠ "java/lang/invoke/MethodHandle" ∧ yX9_told.cls ≠ "java/lang/invoke/VarHandle" ∧ (parseMethodDescriptor yX9_told.desc).map (fun d => d.parameters.length) = some 4 := by decide +kernel
theorem hd_X9_mapAt : yX9_mapAt.cls ≠ "java/lang/invoke/MethodHandle" ∧ yX9_mapAt.cls ≠ "java/lang/invoke/VarHandle" ∧ (parseMethodDescriptor yX9_mapAt.desc).map (fun d => d.parameters.length) = some 2 := by decide +kernel
theorem hd_X9_makeAt : yX9_makeAt.cls ≠ "java/lang/invoke/MethodHandle" ∧ yX9_makeAt.cls ≠ "java/lang/invoke/VarHandle" ∧ (parseMethodDescriptor yX9_makeAt.desc).map (fun d => d.parameters.length) = some 2 := by decide +kernel
theorem hd_X9_isAsked : yX9_isAsked.cls ≠ "java/lang/invoke/MethodHandle" ∧ yX9_isAsked.cls ≠ "java/lang/invoke/VarHandle" ∧ (parseMethodDescriptor yX9_isAsked.desc).map (fun d => d.parameters.length) = some 2 := by decide +kernel
theorem hd_X9_isSaid : yX9_isSaid.cls ≠ "java/lang/invoke/MethodHandle" ∧ yX9_isSaid.cls ≠ "java/lang/invoke/VarHandle" ∧ (parseMethodDescriptor yX9_isSaid.desc).map (fun d => d.parameters.length) = some 2 := by decide +kernel
theorem hd_X9_sayAt : yX9_sayAt.cls ≠ "java/lang/invoke/MethodHandle" ∧ yX9_sayAt.cls ≠ "java/lang/invoke/VarHandle" ∧ (parseMethodDescriptor yX9_sayAt.desc).map (fun d => d.parameters.length) = some 2 := by decide +kernel
theorem hd_X9_workOut : yX9_workOut.cls ≠ "java/lang/invoke/MethodHandle" ∧ yX9_workOut.cls ≠ "java/lang/invoke/VarHandle" ∧ (parseMethodDescriptor yX9_workOut.desc).map (fun d => d.parameters.length) = some 1 := by decide +kernel
theorem hd_X9_value : yX9_value.cls ≠ "java/lang/invoke/MethodHandle" ∧ yX9_value.cls ≠ "java/lang/invoke/VarHandle" ∧ (parseMethodDescriptor yX9_value.desc).map (fun d => d.parameters.length) = some 3 := by decide +kernel
theorem hd_X9_reason : yX9_reason.cls ≠ "java/lang/invoke/MethodHandle" ∧ yX9_reason.cls ≠ "java/lang/invoke/VarHandle" ∧ (parseMethodDescriptor yX9_reason.desc).map (fun d => d.parameters.length) = some 3 := by decide +kernel
theorem hd_X9_condition : yX9_condition.cls ≠ "java/lang/invoke/MethodHandle" ∧ yX9_condition.cls ≠ "java/lang/invoke/VarHandle" ∧ (parseMethodDescriptor yX9_condition.desc).map (fun d => d.parameters.length) = some 4 := by decide +kernel
theorem hd_X9_ask : yX9_ask.cls ≠ "java/lang/invoke/MethodHandle" ∧ yX9_ask.cls ≠ "java/lang/invoke/VarHandle" ∧ (parseMethodDescriptor yX9_ask.desc).map (fun d => d.parameters.length) = some 3 := by decide +kernel
theorem hd_X9_logic : yX9_logic.cls ≠ "java/lang/invoke/MethodHandle" ∧ yX9_logic.cls ≠ "java/lang/invoke/VarHandle" ∧ (parseMethodDescriptor yX9_logic.desc).map (fun d => d.parameters.length) = some 3 := by decide +kernel
theorem hd_X9_some : yX9_some.cls ≠ "java/lang/invoke/MethodHandle" ∧ yX9_some.cls ≠ "java/lang/invoke/VarHandle" ∧ (parseMethodDescriptor yX9_some.desc).map (fun d => d.parameters.length) = some 2 := by decide +kernel
theorem hd_X9_holds : yX9_holds.cls ≠ "java/lang/invoke/MethodHandle" ∧ yX9_holds.cls ≠ "java/lang/invoke/VarHandle" ∧ (parseMethodDescriptor yX9_holds.desc).map (fun d => d.parameters.length) = some 3 := by decide +kernel
theorem hd_X9_filter : yX9_filter.cls ≠ "java/lang/invoke/MethodHandle" ∧ yX9_filter.cls ≠ "java/lang/invoke/VarHandle" ∧ (parseMethodDescriptor yX9_filter.desc).map (fun d => d.parameters.length) = some 2 := by decide +kernel
theorem hd_X9_isAgainst : yX9_isAgainst.cls ≠ "java/lang/invoke/MethodHandle" ∧ yX9_isAgainst.cls ≠ "java/lang/invoke/VarHandle" ∧ (parseMethodDescriptor yX9_isAgainst.desc).map (fun d => d.parameters.length) = some 2 := by decide +kernel
theorem hd_X9_countAgainst : yX9_countAgainst.cls ≠ "java/lang/invoke/MethodHandle" ∧ yX9_countAgainst.cls ≠ "java/lang/invoke/VarHandle" ∧ (parseMethodDescriptor yX9_countAgainst.desc).map (fun d => d.parameters.length) = some 1 := by decide +kernel
theorem hd_X9_against : yX9_against.cls ≠ "java/lang/invoke/MethodHandle" ∧ yX9_against.cls ≠ "java/lang/invoke/VarHandle" ∧ (parseMethodDescriptor yX9_against.desc).map (fun d => d.parameters.length) = some 0 := by decide +kernel
theorem hd_X9_sought : yX9_sought.cls ≠ "java/lang/invoke/MethodHandle" ∧ yX9_sought.cls ≠ "java/lang/invoke/VarHandle" ∧ (parseMethodDescriptor yX9_sought.desc).map (fun d => d.parameters.length) = some 1 := by decide +kernel
theorem hd_X9_againstAt : yX9_againstAt.cls ≠ "java/lang/invoke/MethodHandle" ∧ yX9_againstAt.cls ≠ "java/lang/invoke/VarHandle" ∧ (parseMethodDescriptor yX9_againstAt.desc).map (fun d => d.parameters.length) = some 2 := by decide +kernel
theorem hd_X9_weight : yX9_weight.cls ≠ "java/lang/invoke/MethodHandle" ∧ yX9_weight.cls ≠ "java/lang/invoke/VarHandle" ∧ (parseMethodDescriptor yX9_weight.desc).map (fun d => d.parameters.length) = some 3 := by decide +kernel
theorem hd_X9_line : yX9_line.cls ≠ "java/lang/invoke/MethodHandle" ∧ yX9_line.cls ≠ "java/lang/invoke/VarHandle" ∧ (parseMethodDescriptor yX9_line.desc).map (fun d => d.parameters.length) = some 1 := by decide +kernel
theorem hd_X9_isCodeAtTop : yX9_isCodeAtTop.cls ≠ "java/lang/invoke/MethodHandle" ∧ yX9_isCodeAtTop.cls ≠ "java/lang/invoke/VarHandle" ∧ (parseMethodDescriptor yX9_isCodeAtTop.desc).map (fun d => d.parameters.length) = some 1 := by decide +kernel
theorem hd_X9_table : yX9_table.cls ≠ "java/lang/invoke/MethodHandle" ∧ yX9_table.cls ≠ "java/lang/invoke/VarHandle" ∧ (parseMethodDescriptor yX9_table.desc).map (fun d => d.parameters.length) = some 2 := by decide +kernel
theorem hd_X9_isCell : yX9_isCell.cls ≠ "java/lang/invoke/MethodHandle" ∧ yX9_isCell.cls ≠ "java/lang/invoke/VarHandle" ∧ (parseMethodDescriptor yX9_isCell.desc).map (fun d => d.parameters.length) = some 2 := by decide +kernel
theorem hd_X9_cell : yX9_cell.cls ≠ "java/lang/invoke/MethodHandle" ∧ yX9_cell.cls ≠ "java/lang/invoke/VarHandle" ∧ (parseMethodDescriptor yX9_cell.desc).map (fun d => d.parameters.length) = some 3 := by decide +kernel
theorem hd_X9_shares : yX9_shares.cls ≠ "java/lang/invoke/MethodHandle" ∧ yX9_shares.cls ≠ "java/lang/invoke/VarHandle" ∧ (parseMethodDescriptor yX9_shares.desc).map (fun d => d.parameters.length) = some 1 := by decide +kernel
theorem hd_X9_share : yX9_share.cls ≠ "java/lang/invoke/MethodHandle" ∧ yX9_share.cls ≠ "java/lang/invoke/VarHandle" ∧ (parseMethodDescriptor yX9_share.desc).map (fun d => d.parameters.length) = some 2 := by decide +kernel
theorem hd_X9_hangTogether : yX9_hangTogether.cls ≠ "java/lang/invoke/MethodHandle" ∧ yX9_hangTogether.cls ≠ "java/lang/invoke/VarHandle" ∧ (parseMethodDescriptor yX9_hangTogether.desc).map (fun d => d.parameters.length) = some 3 := by decide +kernel
theorem hd_X9_isFollowing : yX9_isFollowing.cls ≠ "java/lang/invoke/MethodHandle" ∧ yX9_isFollowing.cls ≠ "java/lang/invoke/VarHandle" ∧ (parseMethodDescriptor yX9_isFollowing.desc).map (fun d => d.parameters.length) = some 1 := by decide +kernel
theorem hd_X9_firstFollowing : yX9_firstFollowing.cls ≠ "java/lang/invoke/MethodHandle" ∧ yX9_firstFollowing.cls ≠ "java/lang/invoke/VarHandle" ∧ (parseMethodDescriptor yX9_firstFollowing.desc).map (fun d => d.parameters.length) = some 0 := by decide +kernel
theorem hd_X9_leastOf : yX9_leastOf.cls ≠ "java/lang/invoke/MethodHandle" ∧ yX9_leastOf.cls ≠ "java/lang/invoke/VarHandle" ∧ (parseMethodDescriptor yX9_leastOf.desc).map (fun d => d.parameters.length) = some 2 := by decide +kernel
theorem hd_X9_shown : yX9_shown.cls ≠ "java/lang/invoke/MethodHandle" ∧ yX9_shown.cls ≠ "java/lang/invoke/VarHandle" ∧ (parseMethodDescriptor yX9_shown.desc).map (fun d => d.parameters.length) = some 1 := by decide +kernel
theorem hd_X9_follows : yX9_follows.cls ≠ "java/lang/invoke/MethodHandle" ∧ yX9_follows.cls ≠ "java/lang/invoke/VarHandle" ∧ (parseMethodDescriptor yX9_follows.desc).map (fun d => d.parameters.length) = some 0 := by decide +kernel
theorem hd_X9_rank : yX9_rank.cls ≠ "java/lang/invoke/MethodHandle" ∧ yX9_rank.cls ≠ "java/lang/invoke/VarHandle" ∧ (parseMethodDescriptor yX9_rank.desc).map (fun d => d.parameters.length) = some 2 := by decide +kernel
theorem hd_X9_part : yX9_part.cls ≠ "java/lang/invoke/MethodHandle" ∧ yX9_part.cls ≠ "java/lang/invoke/VarHandle" ∧ (parseMethodDescriptor yX9_part.desc).map (fun d => d.parameters.length) = some 4 := by decide +kernel
theorem hd_X9_mark : yX9_mark.cls ≠ "java/lang/invoke/MethodHandle" ∧ yX9_mark.cls ≠ "java/lang/invoke/VarHandle" ∧ (parseMethodDescriptor yX9_mark.desc).map (fun d => d.parameters.length) = some 2 := by decide +kernel
theorem hd_X9_areLike : yX9_areLike.cls ≠ "java/lang/invoke/MethodHandle" ∧ yX9_areLike.cls ≠ "java/lang/invoke/VarHandle" ∧ (parseMethodDescriptor yX9_areLike.desc).map (fun d => d.parameters.length) = some 4 := by decide +kernel
theorem hd_X9_areDouble : yX9_areDouble.cls ≠ "java/lang/invoke/MethodHandle" ∧ yX9_areDouble.cls ≠ "java/lang/invoke/VarHandle" ∧ (parseMethodDescriptor yX9_areDouble.desc).map (fun d => d.parameters.length) = some 2 := by decide +kernel
theorem hd_X9_countDoubles : yX9_countDoubles.cls ≠ "java/lang/invoke/MethodHandle" ∧ yX9_countDoubles.cls ≠ "java/lang/invoke/VarHandle" ∧ (parseMethodDescriptor yX9_countDoubles.desc).map (fun d => d.parameters.length) = some 1 := by decide +kernel
theorem hd_X9_doubles : yX9_doubles.cls ≠ "java/lang/invoke/MethodHandle" ∧ yX9_doubles.cls ≠ "java/lang/invoke/VarHandle" ∧ (parseMethodDescriptor yX9_doubles.desc).map (fun d => d.parameters.length) = some 0 := by decide +kernel
theorem hd_X9_doubleAt : yX9_doubleAt.cls ≠ "java/lang/invoke/MethodHandle" ∧ yX9_doubleAt.cls ≠ "java/lang/invoke/VarHandle" ∧ (parseMethodDescriptor yX9_doubleAt.desc).map (fun d => d.parameters.length) = some 2 := by decide +kernel
theorem hd_X9_freeze : yX9_freeze.cls ≠ "java/lang/invoke/MethodHandle" ∧ yX9_freeze.cls ≠ "java/lang/invoke/VarHandle" ∧ (parseMethodDescriptor yX9_freeze.desc).map (fun d => d.parameters.length) = some 0 := by decide +kernel
theorem hd_X9_isEdition : yX9_isEdition.cls ≠ "java/lang/invoke/MethodHandle" ∧ yX9_isEdition.cls ≠ "java/lang/invoke/VarHandle" ∧ (parseMethodDescriptor yX9_isEdition.desc).map (fun d => d.parameters.length) = some 1 := by decide +kernel
theorem hd_X9_personsThen : yX9_personsThen.cls ≠ "java/lang/invoke/MethodHandle" ∧ yX9_personsThen.cls ≠ "java/lang/invoke/VarHandle" ∧ (parseMethodDescriptor yX9_personsThen.desc).map (fun d => d.parameters.length) = some 3 := by decide +kernel
theorem hd_X9_isFrozen : yX9_isFrozen.cls ≠ "java/lang/invoke/MethodHandle" ∧ yX9_isFrozen.cls ≠ "java/lang/invoke/VarHandle" ∧ (parseMethodDescriptor yX9_isFrozen.desc).map (fun d => d.parameters.length) = some 4 := by decide +kernel
theorem hd_X9_frozen : yX9_frozen.cls ≠ "java/lang/invoke/MethodHandle" ∧ yX9_frozen.cls ≠ "java/lang/invoke/VarHandle" ∧ (parseMethodDescriptor yX9_frozen.desc).map (fun d => d.parameters.length) = some 4 := by decide +kernel
theorem hd_X9_frozenReason : yX9_frozenReason.cls ≠ "java/lang/invoke/MethodHandle" ∧ yX9_frozenReason.cls ≠ "java/lang/invoke/VarHandle" ∧ (parseMethodDescriptor yX9_frozenReason.desc).map (fun d => d.parameters.length) = some 4 := by decide +kernel
theorem hd_X9_isChanged : yX9_isChanged.cls ≠ "java/lang/invoke/MethodHandle" ∧ yX9_isChanged.cls ≠ "java/lang/invoke/VarHandle" ∧ (parseMethodDescriptor yX9_isChanged.desc).map (fun d => d.parameters.length) = some 5 := by decide +kernel
theorem hd_X9_countChanges : yX9_countChanges.cls ≠ "java/lang/invoke/MethodHandle" ∧ yX9_countChanges.cls ≠ "java/lang/invoke/VarHandle" ∧ (parseMethodDescriptor yX9_countChanges.desc).map (fun d => d.parameters.length) = some 3 := by decide +kernel
theorem hd_X9_changes : yX9_changes.cls ≠ "java/lang/invoke/MethodHandle" ∧ yX9_changes.cls ≠ "java/lang/invoke/VarHandle" ∧ (parseMethodDescriptor yX9_changes.desc).map (fun d => d.parameters.length) = some 2 := by decide +kernel
theorem hd_X9_changeAt : yX9_changeAt.cls ≠ "java/lang/invoke/MethodHandle" ∧ yX9_changeAt.cls ≠ "java/lang/invoke/VarHandle" ∧ (parseMethodDescriptor yX9_changeAt.desc).map (fun d => d.parameters.length) = some 4 := by decide +kernel
theorem hd_X9_merge : yX9_merge.cls ≠ "java/lang/invoke/MethodHandle" ∧ yX9_merge.cls ≠ "java/lang/invoke/VarHandle" ∧ (parseMethodDescriptor yX9_merge.desc).map (fun d => d.parameters.length) = some 1 := by decide +kernel
theorem hd_X9_count : yX9_count.cls ≠ "java/lang/invoke/MethodHandle" ∧ yX9_count.cls ≠ "java/lang/invoke/VarHandle" ∧ (parseMethodDescriptor yX9_count.desc).map (fun d => d.parameters.length) = some 1 := by decide +kernel
theorem hd_J7_copyOf_59c91 : yJ7_copyOf_59c91.cls ≠ "java/lang/invoke/MethodHandle" ∧ yJ7_copyOf_59c91.cls ≠ "java/lang/invoke/VarHandle" ∧ (parseMethodDescriptor yJ7_copyOf_59c91.desc).map (fun d => d.parameters.length) = some 2 := by decide +kernel
theorem hd_J7_copyOf_c38d5 : yJ7_copyOf_c38d5.cls ≠ "java/lang/invoke/MethodHandle" ∧ yJ7_copyOf_c38d5.cls ≠ "java/lang/invoke/VarHandle" ∧ (parseMethodDescriptor yJ7_copyOf_c38d5.desc).map (fun d => d.parameters.length) = some 2 := by decide +kernel
