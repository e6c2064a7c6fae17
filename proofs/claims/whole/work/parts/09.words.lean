theorem sw_in {ts : List Nat} {i t : Nat} {a lo hi : Int} (k : Nat) (ht : ts[i]? = some t) (ha : a = lo + i) (hk : ts.length = k) (hh : hi = lo + k - 1) : ¬ (a < lo ∨ hi < a) := by
  have := (List.getElem?_eq_some_iff.mp ht).1
  omega
theorem sw_at {α : Type} {L : List (Option α)} {a lo : Int} {i : Nat} {r : Option α} (ha : a = lo + i) (h : List.getD L (a - lo).toNat none = r) : List.getD L i none = r := by
  rw [ha, show (lo + (i : Int) - lo).toNat = i by omega] at h; exact h
theorem g_0 : Cond.constant RJ6 265 (1431655765) ∈ wsG := inG 424 (by decide +kernel) (by decide +kernel)
theorem g_1 : Cond.constant RJ6 266 (858993459) ∈ wsG := inG 425 (by decide +kernel) (by decide +kernel)
theorem g_2 : Cond.constant RJ6 267 (252645135) ∈ wsG := inG 426 (by decide +kernel) (by decide +kernel)
theorem g_3 : Cond.methodLink RX8 183 Lib.Math.max.name ∈ wsG := inG 237 (by decide +kernel) (by decide +kernel)
theorem g_4 : Cond.static Lib.Math.max.name ∈ wsG := inG 238 (by decide +kernel) (by decide +kernel)
theorem g_5 : Cond.initialized "java/lang/Math" ∈ wsG := inG 7 (by decide +kernel) (by decide +kernel)
theorem g_6 : Cond.code Lib.Math.max.name Lib.Math.max.code 2 (some .int) ∈ wsG := inG 239 (by decide +kernel) (by decide +kernel)
theorem g_7 : Cond.methodLink RX2 1 Lib.objectInit ∈ wsG := inG 106 (by decide +kernel) (by decide +kernel)
theorem g_8 : Cond.instanceMethod Lib.objectInit ∈ wsG := inG 21 (by decide +kernel) (by decide +kernel)
theorem g_9 : Cond.code Lib.objectInit ⟨#[0xb1]⟩ 1 none ∈ wsG := inG 22 (by decide +kernel) (by decide +kernel)
theorem g_10 : Cond.fieldLink RX2 7 (cT 2 0).1 (cT 2 0).2.1 (cT 2 0).2.2.1 ∈ wsG := inG 107 (by decide +kernel) (by decide +kernel)
theorem g_11 : Cond.fieldLink RX2 13 (cT 2 1).1 (cT 2 1).2.1 (cT 2 1).2.2.1 ∈ wsG := inG 108 (by decide +kernel) (by decide +kernel)
theorem inl_2 : ∀ w ∈ u_ws (cR 2) (cT 2) (cN 2), w ∈ wsG := inL [113, 115, 117, 119, 121] (by decide +kernel) (by decide +kernel)
theorem g_12 : Cond.fieldLink RX2 16 (cT 2 2).1 (cT 2 2).2.1 (cT 2 2).2.2.1 ∈ wsG := inG 110 (by decide +kernel) (by decide +kernel)
theorem g_13 : Cond.fieldLink RX2 19 (cT 2 3).1 (cT 2 3).2.1 (cT 2 3).2.2.1 ∈ wsG := inG 111 (by decide +kernel) (by decide +kernel)
theorem g_14 : Cond.fieldLink RX2 22 (cT 2 4).1 (cT 2 4).2.1 (cT 2 4).2.2.1 ∈ wsG := inG 112 (by decide +kernel) (by decide +kernel)
theorem g_15 : Cond.fieldLink RX3 27 (cT 3 1).1 (cT 3 1).2.1 (cT 3 1).2.2.1 ∈ wsG := inG 35 (by decide +kernel) (by decide +kernel)
theorem g_16 : Cond.fieldLink RX3 11 (cT 3 0).1 (cT 3 0).2.1 (cT 3 0).2.2.1 ∈ wsG := inG 33 (by decide +kernel) (by decide +kernel)
theorem inl_3 : ∀ w ∈ u_ws (cR 3) (cT 3) (cN 3), w ∈ wsG := inL [42, 44, 46, 48, 50, 52] (by decide +kernel) (by decide +kernel)
theorem g_17 : Cond.fieldLink RX5 41 (cT 5 5).1 (cT 5 5).2.1 (cT 5 5).2.2.1 ∈ wsG := inG 180 (by decide +kernel) (by decide +kernel)
theorem g_18 : Cond.fieldLink RX5 24 (cT 5 4).1 (cT 5 4).2.1 (cT 5 4).2.2.1 ∈ wsG := inG 178 (by decide +kernel) (by decide +kernel)
theorem inl_5 : ∀ w ∈ u_ws (cR 5) (cT 5) (cN 5), w ∈ wsG := inL [194, 196, 198, 200, 202, 204, 206, 208, 210, 212, 214, 216, 218] (by decide +kernel) (by decide +kernel)
theorem g_19 : Cond.methodLink RX5 3 Lib.objectInit ∈ wsG := inG 166 (by decide +kernel) (by decide +kernel)
theorem g_20 : Cond.fieldLink RX5 9 (cT 5 0).1 (cT 5 0).2.1 (cT 5 0).2.2.1 ∈ wsG := inG 167 (by decide +kernel) (by decide +kernel)
theorem g_21 : Cond.fieldLink RX5 15 (cT 5 1).1 (cT 5 1).2.1 (cT 5 1).2.2.1 ∈ wsG := inG 170 (by decide +kernel) (by decide +kernel)
theorem g_22 : Cond.fieldLink RX5 18 (cT 5 2).1 (cT 5 2).2.1 (cT 5 2).2.2.1 ∈ wsG := inG 173 (by decide +kernel) (by decide +kernel)
theorem g_23 : Cond.fieldLink RX5 21 (cT 5 3).1 (cT 5 3).2.1 (cT 5 3).2.2.1 ∈ wsG := inG 176 (by decide +kernel) (by decide +kernel)
theorem g_24 : Cond.arrayClass (aty 0) ∈ wsG := inG 55 (by decide +kernel) (by decide +kernel)
theorem g_25 : Cond.arrayClass (aty 1) ∈ wsG := inG 100 (by decide +kernel) (by decide +kernel)
theorem g_26 : Cond.fieldLink RX5 28 (cT 5 6).1 (cT 5 6).2.1 (cT 5 6).2.2.1 ∈ wsG := inG 182 (by decide +kernel) (by decide +kernel)
theorem g_27 : Cond.fieldLink RX5 32 (cT 5 7).1 (cT 5 7).2.1 (cT 5 7).2.2.1 ∈ wsG := inG 183 (by decide +kernel) (by decide +kernel)
theorem g_28 : Cond.fieldLink RX5 35 (cT 5 8).1 (cT 5 8).2.1 (cT 5 8).2.2.1 ∈ wsG := inG 184 (by decide +kernel) (by decide +kernel)
theorem g_29 : Cond.fieldLink RX5 38 (cT 5 10).1 (cT 5 10).2.1 (cT 5 10).2.2.1 ∈ wsG := inG 188 (by decide +kernel) (by decide +kernel)
theorem g_30 : Cond.constantLong RX5 63 (5) ∈ wsG := inG 373 (by decide +kernel) (by decide +kernel)
theorem g_31 : Cond.code yX5_codeIndex cX5_codeIndex 4 (some .int) ∈ wsG := inG 254 (by decide +kernel) (by decide +kernel)
theorem g_32 : Cond.initialized RX5 ∈ wsG := inG 6 (by decide +kernel) (by decide +kernel)
theorem g_33 : Cond.methodLink RX5 47 yX5_codeIndex ∈ wsG := inG 271 (by decide +kernel) (by decide +kernel)
theorem g_34 : Cond.instanceMethod yX5_codeIndex ∈ wsG := inG 252 (by decide +kernel) (by decide +kernel)
theorem g_35 : Cond.selects RX5 yX5_codeIndex yX5_codeIndex ∈ wsG := inG 253 (by decide +kernel) (by decide +kernel)
theorem g_36 : Cond.constantLong RX5 55 (-1000000000000000) ∈ wsG := inG 369 (by decide +kernel) (by decide +kernel)
theorem g_37 : Cond.constantLong RX5 57 (1000000000000000) ∈ wsG := inG 370 (by decide +kernel) (by decide +kernel)
theorem g_38 : Cond.constantLong RX5 59 (-30000) ∈ wsG := inG 371 (by decide +kernel) (by decide +kernel)
theorem g_39 : Cond.constantLong RX5 61 (30000) ∈ wsG := inG 372 (by decide +kernel) (by decide +kernel)
theorem g_40 : Cond.fieldLink RX9 35 (cT 9 9).1 (cT 9 9).2.1 (cT 9 9).2.2.1 ∈ wsG := inG 838 (by decide +kernel) (by decide +kernel)
theorem g_41 : Cond.fieldLink RX9 32 (cT 9 8).1 (cT 9 8).2.1 (cT 9 8).2.2.1 ∈ wsG := inG 837 (by decide +kernel) (by decide +kernel)
theorem inl_9 : ∀ w ∈ u_ws (cR 9) (cT 9) (cN 9), w ∈ wsG := inL [882, 884, 886, 888, 890, 892, 894, 896, 898, 900, 902, 904, 906, 908, 910, 912, 914, 916, 918, 920, 922, 924, 926, 928, 930, 932, 934, 936, 938, 940, 942, 944, 946, 948, 950, 952, 954, 956, 958, 960, 962, 964, 966, 968, 970, 972, 974, 976, 978, 980, 982, 984, 986] (by decide +kernel) (by decide +kernel)
theorem g_42 : Cond.fieldLink RX0 9 (cT 0 0).1 (cT 0 0).2.1 (cT 0 0).2.2.1 ∈ wsG := inG 462 (by decide +kernel) (by decide +kernel)
theorem g_43 : Cond.fieldLink RX0 21 (cT 0 3).1 (cT 0 3).2.1 (cT 0 3).2.2.1 ∈ wsG := inG 468 (by decide +kernel) (by decide +kernel)
theorem inl_0 : ∀ w ∈ u_ws (cR 0) (cT 0) (cN 0), w ∈ wsG := inL [478, 480, 482, 484, 486, 488, 490] (by decide +kernel) (by decide +kernel)
theorem g_44 : Cond.fieldLink RX6 9 (cT 6 0).1 (cT 6 0).2.1 (cT 6 0).2.2.1 ∈ wsG := inG 318 (by decide +kernel) (by decide +kernel)
theorem g_45 : Cond.code yX8_spot cX8_spot 2 (some .int) ∈ wsG := inG 236 (by decide +kernel) (by decide +kernel)
theorem g_46 : Cond.initialized RX8 ∈ wsG := inG 1 (by decide +kernel) (by decide +kernel)
theorem g_47 : Cond.static yX8_spot ∈ wsG := inG 235 (by decide +kernel) (by decide +kernel)
theorem inl_6 : ∀ w ∈ u_ws (cR 6) (cT 6) (cN 6), w ∈ wsG := inL [326, 328] (by decide +kernel) (by decide +kernel)
theorem g_48 : Cond.code yX6_persons cX6_persons 2 (some .int) ∈ wsG := inG 363 (by decide +kernel) (by decide +kernel)
theorem g_49 : Cond.initialized RX6 ∈ wsG := inG 9 (by decide +kernel) (by decide +kernel)
theorem g_50 : Cond.methodLink RX8 188 yX6_persons ∈ wsG := inG 360 (by decide +kernel) (by decide +kernel)
theorem g_51 : Cond.instanceMethod yX6_persons ∈ wsG := inG 361 (by decide +kernel) (by decide +kernel)
theorem g_52 : Cond.selects RX6 yX6_persons yX6_persons ∈ wsG := inG 362 (by decide +kernel) (by decide +kernel)
theorem g_53 : Cond.fieldLink RX5 44 (cT 5 9).1 (cT 5 9).2.1 (cT 5 9).2.2.1 ∈ wsG := inG 186 (by decide +kernel) (by decide +kernel)
theorem g_54 : Cond.fieldLink RX6 15 (cT 6 1).1 (cT 6 1).2.1 (cT 6 1).2.2.1 ∈ wsG := inG 322 (by decide +kernel) (by decide +kernel)
theorem g_55 : Cond.fieldLink RX3 106 (cT 5 1).1 (cT 5 1).2.1 (cT 5 1).2.2.1 ∈ wsG := inG 172 (by decide +kernel) (by decide +kernel)
theorem g_56 : Cond.fieldLink RX3 92 (cT 5 3).1 (cT 5 3).2.1 (cT 5 3).2.2.1 ∈ wsG := inG 177 (by decide +kernel) (by decide +kernel)
theorem g_57 : Cond.fieldLink RX3 113 (cT 6 0).1 (cT 6 0).2.1 (cT 6 0).2.2.1 ∈ wsG := inG 320 (by decide +kernel) (by decide +kernel)
theorem g_58 : Cond.fieldLink RX3 121 (cT 6 1).1 (cT 6 1).2.1 (cT 6 1).2.2.1 ∈ wsG := inG 324 (by decide +kernel) (by decide +kernel)
theorem g_59 : Cond.fieldLink RX3 128 (cT 5 8).1 (cT 5 8).2.1 (cT 5 8).2.2.1 ∈ wsG := inG 185 (by decide +kernel) (by decide +kernel)
theorem g_60 : Cond.code yX6_put cX6_put 4 none ∈ wsG := inG 243 (by decide +kernel) (by decide +kernel)
theorem g_61 : Cond.methodLink RX3 100 yX6_put ∈ wsG := inG 415 (by decide +kernel) (by decide +kernel)
theorem g_62 : Cond.instanceMethod yX6_put ∈ wsG := inG 241 (by decide +kernel) (by decide +kernel)
theorem g_63 : Cond.selects RX6 yX6_put yX6_put ∈ wsG := inG 242 (by decide +kernel) (by decide +kernel)
theorem g_64 : Cond.code yX6_lack cX6_lack 3 none ∈ wsG := inG 381 (by decide +kernel) (by decide +kernel)
theorem g_65 : Cond.methodLink RX3 124 yX6_lack ∈ wsG := inG 414 (by decide +kernel) (by decide +kernel)
theorem g_66 : Cond.instanceMethod yX6_lack ∈ wsG := inG 379 (by decide +kernel) (by decide +kernel)
theorem g_67 : Cond.selects RX6 yX6_lack yX6_lack ∈ wsG := inG 380 (by decide +kernel) (by decide +kernel)
theorem g_68 : Cond.code yX5_rowAround cX5_rowAround 4 (some .int) ∈ wsG := inG 413 (by decide +kernel) (by decide +kernel)
theorem g_69 : Cond.methodLink RX3 117 yX5_rowAround ∈ wsG := inG 410 (by decide +kernel) (by decide +kernel)
theorem g_70 : Cond.instanceMethod yX5_rowAround ∈ wsG := inG 411 (by decide +kernel) (by decide +kernel)
theorem g_71 : Cond.selects RX5 yX5_rowAround yX5_rowAround ∈ wsG := inG 412 (by decide +kernel) (by decide +kernel)
theorem g_72 : Cond.code yX8_placesOf cX8_placesOf 2 (some .int) ∈ wsG := inG 408 (by decide +kernel) (by decide +kernel)
theorem g_73 : Cond.static yX8_placesOf ∈ wsG := inG 407 (by decide +kernel) (by decide +kernel)
theorem g_74 : Cond.fieldLink RX7 25 (cT 7 7).1 (cT 7 7).2.1 (cT 7 7).2.2.1 ∈ wsG := inG 78 (by decide +kernel) (by decide +kernel)
theorem g_75 : Cond.fieldLink RX7 68 (cT 7 8).1 (cT 7 8).2.1 (cT 7 8).2.2.1 ∈ wsG := inG 79 (by decide +kernel) (by decide +kernel)
theorem inl_7 : ∀ w ∈ u_ws (cR 7) (cT 7) (cN 7), w ∈ wsG := inL [81, 83, 85, 87, 89, 91, 93, 95, 97] (by decide +kernel) (by decide +kernel)
theorem g_76 : Cond.code yJ7_fill_53178 cJ7_fill_53178 4 none ∈ wsG := inG 317 (by decide +kernel) (by decide +kernel)
theorem g_77 : Cond.initialized RJ7 ∈ wsG := inG 10 (by decide +kernel) (by decide +kernel)
theorem g_78 : Cond.static yJ7_fill_53178 ∈ wsG := inG 316 (by decide +kernel) (by decide +kernel)
theorem g_79 : Cond.methodLink RX7 39 yJ7_fill_53178 ∈ wsG := inG 569 (by decide +kernel) (by decide +kernel)
theorem g_80 : Cond.fieldLink RX7 32 (cT 7 1).1 (cT 7 1).2.1 (cT 7 1).2.2.1 ∈ wsG := inG 68 (by decide +kernel) (by decide +kernel)
theorem g_81 : Cond.fieldLink RX7 28 (cT 7 0).1 (cT 7 0).2.1 (cT 7 0).2.2.1 ∈ wsG := inG 66 (by decide +kernel) (by decide +kernel)
theorem g_82 : Cond.fieldLink RX7 9 (cT 7 3).1 (cT 7 3).2.1 (cT 7 3).2.2.1 ∈ wsG := inG 71 (by decide +kernel) (by decide +kernel)
theorem g_83 : Cond.code yX7_hold cX7_hold 3 none ∈ wsG := inG 642 (by decide +kernel) (by decide +kernel)
theorem g_84 : Cond.initialized RX7 ∈ wsG := inG 3 (by decide +kernel) (by decide +kernel)
theorem g_85 : Cond.methodLink RX7 71 yX7_hold ∈ wsG := inG 639 (by decide +kernel) (by decide +kernel)
theorem g_86 : Cond.instanceMethod yX7_hold ∈ wsG := inG 641 (by decide +kernel) (by decide +kernel)
theorem g_87 : Cond.selects RX7 yX7_hold yX7_hold ∈ wsG := inS 15 (by decide +kernel) (by decide +kernel)
theorem g_88 : Cond.code yX7_at cX7_at 3 (some .int) ∈ wsG := inG 592 (by decide +kernel) (by decide +kernel)
theorem g_89 : Cond.methodLink RX7 55 yX7_at ∈ wsG := inG 589 (by decide +kernel) (by decide +kernel)
theorem g_90 : Cond.instanceMethod yX7_at ∈ wsG := inG 590 (by decide +kernel) (by decide +kernel)
theorem g_91 : Cond.selects RX7 yX7_at yX7_at ∈ wsG := inG 591 (by decide +kernel) (by decide +kernel)
theorem g_92 : Cond.code yX7_holdNone cX7_holdNone 1 none ∈ wsG := inG 576 (by decide +kernel) (by decide +kernel)
theorem g_93 : Cond.methodLink RX7 48 yX7_holdNone ∈ wsG := inG 573 (by decide +kernel) (by decide +kernel)
theorem g_94 : Cond.instanceMethod yX7_holdNone ∈ wsG := inG 575 (by decide +kernel) (by decide +kernel)
theorem g_95 : Cond.selects RX7 yX7_holdNone yX7_holdNone ∈ wsG := inS 13 (by decide +kernel) (by decide +kernel)
theorem g_96 : Cond.fieldLink RX9 51 (cT 9 15).1 (cT 9 15).2.1 (cT 9 15).2.2.1 ∈ wsG := inG 844 (by decide +kernel) (by decide +kernel)
theorem g_97 : Cond.code yX9_place cX9_place 3 (some .int) ∈ wsG := inG 1012 (by decide +kernel) (by decide +kernel)
theorem g_98 : Cond.initialized RX9 ∈ wsG := inG 5 (by decide +kernel) (by decide +kernel)
theorem g_99 : Cond.static yX9_place ∈ wsG := inG 1011 (by decide +kernel) (by decide +kernel)
theorem g_100 : Cond.methodLink RX9 150 yX9_place ∈ wsG := inG 1010 (by decide +kernel) (by decide +kernel)
theorem g_101 : Cond.fieldLink RX9 66 (cT 9 21).1 (cT 9 21).2.1 (cT 9 21).2.2.1 ∈ wsG := inG 850 (by decide +kernel) (by decide +kernel)
theorem g_102 : Cond.fieldLink RX9 63 (cT 9 20).1 (cT 9 20).2.1 (cT 9 20).2.2.1 ∈ wsG := inG 849 (by decide +kernel) (by decide +kernel)
theorem g_103 : Cond.fieldLink RX9 115 (cT 9 43).1 (cT 9 43).2.1 (cT 9 43).2.2.1 ∈ wsG := inG 872 (by decide +kernel) (by decide +kernel)
theorem g_104 : Cond.fieldLink RX9 118 (cT 9 44).1 (cT 9 44).2.1 (cT 9 44).2.2.1 ∈ wsG := inG 873 (by decide +kernel) (by decide +kernel)
theorem g_105 : Cond.fieldLink RX9 7 (cT 9 1).1 (cT 9 1).2.1 (cT 9 1).2.2.1 ∈ wsG := inG 830 (by decide +kernel) (by decide +kernel)
theorem g_106 : Cond.fieldLink RX9 69 (cT 9 22).1 (cT 9 22).2.1 (cT 9 22).2.2.1 ∈ wsG := inG 851 (by decide +kernel) (by decide +kernel)
theorem g_107 : Cond.fieldLink RX9 121 (cT 9 45).1 (cT 9 45).2.1 (cT 9 45).2.2.1 ∈ wsG := inG 874 (by decide +kernel) (by decide +kernel)
theorem g_108 : Cond.fieldLink RX9 78 (cT 9 25).1 (cT 9 25).2.1 (cT 9 25).2.2.1 ∈ wsG := inG 854 (by decide +kernel) (by decide +kernel)
theorem g_109 : Cond.fieldLink RX9 60 (cT 9 19).1 (cT 9 19).2.1 (cT 9 19).2.2.1 ∈ wsG := inG 848 (by decide +kernel) (by decide +kernel)
theorem g_110 : Cond.fieldLink RX9 72 (cT 9 23).1 (cT 9 23).2.1 (cT 9 23).2.2.1 ∈ wsG := inG 852 (by decide +kernel) (by decide +kernel)
theorem g_111 : Cond.fieldLink RX9 75 (cT 9 24).1 (cT 9 24).2.1 (cT 9 24).2.2.1 ∈ wsG := inG 853 (by decide +kernel) (by decide +kernel)
theorem g_112 : Cond.code yX9_isSaid cX9_isSaid 3 (some .boolean) ∈ wsG := inG 1118 (by decide +kernel) (by decide +kernel)
theorem g_113 : Cond.methodLink RX9 219 yX9_isSaid ∈ wsG := inG 1115 (by decide +kernel) (by decide +kernel)
theorem g_114 : Cond.instanceMethod yX9_isSaid ∈ wsG := inG 1117 (by decide +kernel) (by decide +kernel)
theorem g_115 : Cond.selects RX9 yX9_isSaid yX9_isSaid ∈ wsG := inS 47 (by decide +kernel) (by decide +kernel)
theorem g_116 : Cond.code yX9_isAsked cX9_isAsked 7 (some .boolean) ∈ wsG := inG 1114 (by decide +kernel) (by decide +kernel)
theorem g_117 : Cond.methodLink RX9 215 yX9_isAsked ∈ wsG := inG 1111 (by decide +kernel) (by decide +kernel)
theorem g_118 : Cond.instanceMethod yX9_isAsked ∈ wsG := inG 1113 (by decide +kernel) (by decide +kernel)
theorem g_119 : Cond.selects RX9 yX9_isAsked yX9_isAsked ∈ wsG := inS 46 (by decide +kernel) (by decide +kernel)
theorem g_120 : Cond.code yX9_persons cX9_persons 3 (some .int) ∈ wsG := inG 1070 (by decide +kernel) (by decide +kernel)
theorem g_121 : Cond.methodLink RX9 184 yX9_persons ∈ wsG := inG 1067 (by decide +kernel) (by decide +kernel)
theorem g_122 : Cond.instanceMethod yX9_persons ∈ wsG := inG 1069 (by decide +kernel) (by decide +kernel)
theorem g_123 : Cond.selects RX9 yX9_persons yX9_persons ∈ wsG := inS 38 (by decide +kernel) (by decide +kernel)
theorem hd_J6_bitCount_0f7a4 : yJ6_bitCount_0f7a4.cls ≠ "java/lang/invoke/MethodHandle" ∧ yJ6_bitCount_0f7a4.cls ≠ "java/lang/invoke/VarHandle" ∧ (parseMethodDescriptor yJ6_bitCount_0f7a4.desc).map (fun d => d.parameters.length) = some 1 := by decide +kernel
theorem hd_J7_fill_53178 : yJ7_fill_53178.cls ≠ "java/lang/invoke/MethodHandle" ∧ yJ7_fill_53178.cls ≠ "java/lang/invoke/VarHandle" ∧ (parseMethodDescriptor yJ7_fill_53178.desc).map (fun d => d.parameters.length) = some 2 := by decide +kernel
theorem hd_X8_spot : yX8_spot.cls ≠ "java/lang/invoke/MethodHandle" ∧ yX8_spot.cls ≠ "java/lang/invoke/VarHandle" ∧ (parseMethodDescriptor yX8_spot.desc).map (fun d => d.parameters.length) = some 2 := by decide +kernel
theorem hd_X2_init : yX2_init.cls ≠ "java/lang/invoke/MethodHandle" ∧ yX2_init.cls ≠ "java/lang/invoke/VarHandle" ∧ (parseMethodDescriptor yX2_init.desc).map (fun d => d.parameters.length) = some 0 := by decide +kernel
theorem hd_X2_start : yX2_start.cls ≠ "java/lang/invoke/MethodHandle" ∧ yX2_start.cls ≠ "java/lang/invoke/VarHandle" ∧ (parseMethodDescriptor yX2_start.desc).map (fun d => d.parameters.length) = some 1 := by decide +kernel
theorem hd_X2_meet : yX2_meet.cls ≠ "java/lang/invoke/MethodHandle" ∧ yX2_meet.cls ≠ "java/lang/invoke/VarHandle" ∧ (parseMethodDescriptor yX2_meet.desc).map (fun d => d.parameters.length) = some 3 := by decide +kernel
theorem hd_X2_told : yX2_told.cls ≠ "java/lang/invoke/MethodHandle" ∧ yX2_told.cls ≠ "java/lang/invoke/VarHandle" ∧ (parseMethodDescriptor yX2_told.desc).map (fun d => d.parameters.length) = some 3 := by decide +kernel
theorem hd_X3_questionOf : yX3_questionOf.cls ≠ "java/lang/invoke/MethodHandle" ∧ yX3_questionOf.cls ≠ "java/lang/invoke/VarHandle" ∧ (parseMethodDescriptor yX3_questionOf.desc).map (fun d => d.parameters.length) = some 1 := by decide +kernel
theorem hd_X5_codeIndex : yX5_codeIndex.cls ≠ "java/lang/invoke/MethodHandle" ∧ yX5_codeIndex.cls ≠ "java/lang/invoke/VarHandle" ∧ (parseMethodDescriptor yX5_codeIndex.desc).map (fun d => d.parameters.length) = some 1 := by decide +kernel
theorem hd_X5_init : yX5_init.cls ≠ "java/lang/invoke/MethodHandle" ∧ yX5_init.cls ≠ "java/lang/invoke/VarHandle" ∧ (parseMethodDescriptor yX5_init.desc).map (fun d => d.parameters.length) = some 4 := by decide +kernel
theorem hd_X5_takes : yX5_takes.cls ≠ "java/lang/invoke/MethodHandle" ∧ yX5_takes.cls ≠ "java/lang/invoke/VarHandle" ∧ (parseMethodDescriptor yX5_takes.desc).map (fun d => d.parameters.length) = some 1 := by decide +kernel
theorem hd_X9_codeNumber : yX9_codeNumber.cls ≠ "java/lang/invoke/MethodHandle" ∧ yX9_codeNumber.cls ≠ "java/lang/invoke/VarHandle" ∧ (parseMethodDescriptor yX9_codeNumber.desc).map (fun d => d.parameters.length) = some 2 := by decide +kernel
theorem hd_X0_fits : yX0_fits.cls ≠ "java/lang/invoke/MethodHandle" ∧ yX0_fits.cls ≠ "java/lang/invoke/VarHandle" ∧ (parseMethodDescriptor yX0_fits.desc).map (fun d => d.parameters.length) = some 3 := by decide +kernel
theorem hd_X6_persons : yX6_persons.cls ≠ "java/lang/invoke/MethodHandle" ∧ yX6_persons.cls ≠ "java/lang/invoke/VarHandle" ∧ (parseMethodDescriptor yX6_persons.desc).map (fun d => d.parameters.length) = some 1 := by decide +kernel
theorem hd_X8_placesOf : yX8_placesOf.cls ≠ "java/lang/invoke/MethodHandle" ∧ yX8_placesOf.cls ≠ "java/lang/invoke/VarHandle" ∧ (parseMethodDescriptor yX8_placesOf.desc).map (fun d => d.parameters.length) = some 2 := by decide +kernel
theorem hd_X5_rowAround : yX5_rowAround.cls ≠ "java/lang/invoke/MethodHandle" ∧ yX5_rowAround.cls ≠ "java/lang/invoke/VarHandle" ∧ (parseMethodDescriptor yX5_rowAround.desc).map (fun d => d.parameters.length) = some 1 := by decide +kernel
theorem hd_X6_lack : yX6_lack.cls ≠ "java/lang/invoke/MethodHandle" ∧ yX6_lack.cls ≠ "java/lang/invoke/VarHandle" ∧ (parseMethodDescriptor yX6_lack.desc).map (fun d => d.parameters.length) = some 2 := by decide +kernel
theorem hd_X6_put : yX6_put.cls ≠ "java/lang/invoke/MethodHandle" ∧ yX6_put.cls ≠ "java/lang/invoke/VarHandle" ∧ (parseMethodDescriptor yX6_put.desc).map (fun d => d.parameters.length) = some 2 := by decide +kernel
theorem hd_X3_makeMapped : yX3_makeMapped.cls ≠ "java/lang/invoke/MethodHandle" ∧ yX3_makeMapped.cls ≠ "java/lang/invoke/VarHandle" ∧ (parseMethodDescriptor yX3_makeMapped.desc).map (fun d => d.parameters.length) = some 2 := by decide +kernel
theorem hd_X7_holdNone : yX7_holdNone.cls ≠ "java/lang/invoke/MethodHandle" ∧ yX7_holdNone.cls ≠ "java/lang/invoke/VarHandle" ∧ (parseMethodDescriptor yX7_holdNone.desc).map (fun d => d.parameters.length) = some 0 := by decide +kernel
theorem hd_X7_at : yX7_at.cls ≠ "java/lang/invoke/MethodHandle" ∧ yX7_at.cls ≠ "java/lang/invoke/VarHandle" ∧ (parseMethodDescriptor yX7_at.desc).map (fun d => d.parameters.length) = some 2 := by decide +kernel
theorem hd_X7_hold : yX7_hold.cls ≠ "java/lang/invoke/MethodHandle" ∧ yX7_hold.cls ≠ "java/lang/invoke/VarHandle" ∧ (parseMethodDescriptor yX7_hold.desc).map (fun d => d.parameters.length) = some 2 := by decide +kernel
theorem hd_X7_holdBelow : yX7_holdBelow.cls ≠ "java/lang/invoke/MethodHandle" ∧ yX7_holdBelow.cls ≠ "java/lang/invoke/VarHandle" ∧ (parseMethodDescriptor yX7_holdBelow.desc).map (fun d => d.parameters.length) = some 1 := by decide +kernel
theorem hd_X9_place : yX9_place.cls ≠ "java/lang/invoke/MethodHandle" ∧ yX9_place.cls ≠ "java/lang/invoke/VarHandle" ∧ (parseMethodDescriptor yX9_place.desc).map (fun d => d.parameters.length) = some 3 := by decide +kernel
theorem hd_X9_persons : yX9_persons.cls ≠ "java/lang/invoke/MethodHandle" ∧ yX9_persons.cls ≠ "java/lang/invoke/VarHandle" ∧ (parseMethodDescriptor yX9_persons.desc).map (fun d => d.parameters.length) = some 2 := by decide +kernel
theorem hd_X9_isAsked : yX9_isAsked.cls ≠ "java/lang/invoke/MethodHandle" ∧ yX9_isAsked.cls ≠ "java/lang/invoke/VarHandle" ∧ (parseMethodDescriptor yX9_isAsked.desc).map (fun d => d.parameters.length) = some 2 := by decide +kernel
theorem hd_X9_isSaid : yX9_isSaid.cls ≠ "java/lang/invoke/MethodHandle" ∧ yX9_isSaid.cls ≠ "java/lang/invoke/VarHandle" ∧ (parseMethodDescriptor yX9_isSaid.desc).map (fun d => d.parameters.length) = some 2 := by decide +kernel
theorem hd_X9_sayAt : yX9_sayAt.cls ≠ "java/lang/invoke/MethodHandle" ∧ yX9_sayAt.cls ≠ "java/lang/invoke/VarHandle" ∧ (parseMethodDescriptor yX9_sayAt.desc).map (fun d => d.parameters.length) = some 2 := by decide +kernel
