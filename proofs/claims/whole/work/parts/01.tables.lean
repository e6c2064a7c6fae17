-- ===== PART A: goes FIRST, ahead of the names: the tables' words, and 'selects' of the private methods out of them =====
/-- a private method of a class that the tables say can be made, by its rows of tables_1 -/
def lw_okq (q : MethodName × Nat) : Prop := (q.1.cls ≠ "java/lang/invoke/MethodHandle" ∧ q.1.cls ≠ "java/lang/invoke/VarHandle") ∧ Cond.instantiable q.1.cls q.2 ∈ tables_1 ∧ Cond.privateMethod q.1 ∈ tables_1 ∧ Cond.instanceMethod q.1 ∈ tables_1
theorem lw_p0 : lw_okq (⟨"HouseholdVault$Form", "addStep", "(I)I"⟩, 6) := ⟨⟨by decide +kernel, by decide +kernel⟩, List.mem_of_getElem? (i := 24) (by decide +kernel), List.mem_of_getElem? (i := 227) (by decide +kernel), List.mem_of_getElem? (i := 228) (by decide +kernel)⟩
theorem lw_p1 : lw_okq (⟨"HouseholdVault", "emptyEverywhere", "(I)V"⟩, 8) := ⟨⟨by decide +kernel, by decide +kernel⟩, List.mem_of_getElem? (i := 16) (by decide +kernel), List.mem_of_getElem? (i := 231) (by decide +kernel), List.mem_of_getElem? (i := 232) (by decide +kernel)⟩
theorem lw_p2 : lw_okq (⟨"HouseholdVault", "homeOf", "(I)LHouseholdVault$Household;"⟩, 8) := ⟨⟨by decide +kernel, by decide +kernel⟩, List.mem_of_getElem? (i := 16) (by decide +kernel), List.mem_of_getElem? (i := 351) (by decide +kernel), List.mem_of_getElem? (i := 352) (by decide +kernel)⟩
theorem lw_p3 : lw_okq (⟨"HouseholdVault", "dropPersons", "(LHouseholdVault$Sheet;II)V"⟩, 8) := ⟨⟨by decide +kernel, by decide +kernel⟩, List.mem_of_getElem? (i := 16) (by decide +kernel), List.mem_of_getElem? (i := 372) (by decide +kernel), List.mem_of_getElem? (i := 373) (by decide +kernel)⟩
theorem lw_p4 : lw_okq (⟨"HouseholdVault", "settledSheet", "(III)LHouseholdVault$Sheet;"⟩, 8) := ⟨⟨by decide +kernel, by decide +kernel⟩, List.mem_of_getElem? (i := 16) (by decide +kernel), List.mem_of_getElem? (i := 388) (by decide +kernel), List.mem_of_getElem? (i := 389) (by decide +kernel)⟩
theorem lw_p5 : lw_okq (⟨"HouseholdVault$Form", "makeTruths", "(LHouseholdVault$Household;I)V"⟩, 6) := ⟨⟨by decide +kernel, by decide +kernel⟩, List.mem_of_getElem? (i := 24) (by decide +kernel), List.mem_of_getElem? (i := 396) (by decide +kernel), List.mem_of_getElem? (i := 397) (by decide +kernel)⟩
theorem lw_p6 : lw_okq (⟨"HouseholdVault$Form", "spread", "(LHouseholdVault$Household;II)I"⟩, 6) := ⟨⟨by decide +kernel, by decide +kernel⟩, List.mem_of_getElem? (i := 24) (by decide +kernel), List.mem_of_getElem? (i := 403) (by decide +kernel), List.mem_of_getElem? (i := 404) (by decide +kernel)⟩
theorem lw_p7 : lw_okq (⟨"HouseholdVault$Form", "bitsOfAsk", "(LHouseholdVault$Sheet;LHouseholdVault$Condition;I)I"⟩, 6) := ⟨⟨by decide +kernel, by decide +kernel⟩, List.mem_of_getElem? (i := 24) (by decide +kernel), List.mem_of_getElem? (i := 413) (by decide +kernel), List.mem_of_getElem? (i := 414) (by decide +kernel)⟩
theorem lw_p8 : lw_okq (⟨"HouseholdVault$Form", "makeMapped", "(LHouseholdVault$Sheet;I)V"⟩, 6) := ⟨⟨by decide +kernel, by decide +kernel⟩, List.mem_of_getElem? (i := 24) (by decide +kernel), List.mem_of_getElem? (i := 422) (by decide +kernel), List.mem_of_getElem? (i := 423) (by decide +kernel)⟩
theorem lw_p9 : lw_okq (⟨"HouseholdVault$Form", "makeSum", "(LHouseholdVault$Sheet;I)V"⟩, 6) := ⟨⟨by decide +kernel, by decide +kernel⟩, List.mem_of_getElem? (i := 24) (by decide +kernel), List.mem_of_getElem? (i := 432) (by decide +kernel), List.mem_of_getElem? (i := 433) (by decide +kernel)⟩
theorem lw_p10 : lw_okq (⟨"HouseholdVault$Form", "makeHowMany", "(LHouseholdVault$Household;I)V"⟩, 6) := ⟨⟨by decide +kernel, by decide +kernel⟩, List.mem_of_getElem? (i := 24) (by decide +kernel), List.mem_of_getElem? (i := 437) (by decide +kernel), List.mem_of_getElem? (i := 438) (by decide +kernel)⟩
theorem lw_p11 : lw_okq (⟨"HouseholdVault", "findAgainst", "(I)V"⟩, 8) := ⟨⟨by decide +kernel, by decide +kernel⟩, List.mem_of_getElem? (i := 16) (by decide +kernel), List.mem_of_getElem? (i := 523) (by decide +kernel), List.mem_of_getElem? (i := 524) (by decide +kernel)⟩
theorem lw_p12 : lw_okq (⟨"HouseholdVault", "meetAgainst", "(II)V"⟩, 8) := ⟨⟨by decide +kernel, by decide +kernel⟩, List.mem_of_getElem? (i := 16) (by decide +kernel), List.mem_of_getElem? (i := 531) (by decide +kernel), List.mem_of_getElem? (i := 532) (by decide +kernel)⟩
theorem lw_p13 : lw_okq (⟨"HouseholdVault$Table", "holdNone", "()V"⟩, 9) := ⟨⟨by decide +kernel, by decide +kernel⟩, List.mem_of_getElem? (i := 61) (by decide +kernel), List.mem_of_getElem? (i := 574) (by decide +kernel), List.mem_of_getElem? (i := 575) (by decide +kernel)⟩
theorem lw_p14 : lw_okq (⟨"HouseholdVault$Table", "giveOneMore", "()V"⟩, 9) := ⟨⟨by decide +kernel, by decide +kernel⟩, List.mem_of_getElem? (i := 61) (by decide +kernel), List.mem_of_getElem? (i := 623) (by decide +kernel), List.mem_of_getElem? (i := 624) (by decide +kernel)⟩
theorem lw_p15 : lw_okq (⟨"HouseholdVault$Table", "hold", "(II)V"⟩, 9) := ⟨⟨by decide +kernel, by decide +kernel⟩, List.mem_of_getElem? (i := 61) (by decide +kernel), List.mem_of_getElem? (i := 640) (by decide +kernel), List.mem_of_getElem? (i := 641) (by decide +kernel)⟩
def lw_privs_1 : List (MethodName × Nat) := [(⟨"HouseholdVault$Form", "addStep", "(I)I"⟩, 6), (⟨"HouseholdVault", "emptyEverywhere", "(I)V"⟩, 8), (⟨"HouseholdVault", "homeOf", "(I)LHouseholdVault$Household;"⟩, 8), (⟨"HouseholdVault", "dropPersons", "(LHouseholdVault$Sheet;II)V"⟩, 8), (⟨"HouseholdVault", "settledSheet", "(III)LHouseholdVault$Sheet;"⟩, 8), (⟨"HouseholdVault$Form", "makeTruths", "(LHouseholdVault$Household;I)V"⟩, 6), (⟨"HouseholdVault$Form", "spread", "(LHouseholdVault$Household;II)I"⟩, 6), (⟨"HouseholdVault$Form", "bitsOfAsk", "(LHouseholdVault$Sheet;LHouseholdVault$Condition;I)I"⟩, 6), (⟨"HouseholdVault$Form", "makeMapped", "(LHouseholdVault$Sheet;I)V"⟩, 6), (⟨"HouseholdVault$Form", "makeSum", "(LHouseholdVault$Sheet;I)V"⟩, 6), (⟨"HouseholdVault$Form", "makeHowMany", "(LHouseholdVault$Household;I)V"⟩, 6), (⟨"HouseholdVault", "findAgainst", "(I)V"⟩, 8), (⟨"HouseholdVault", "meetAgainst", "(II)V"⟩, 8), (⟨"HouseholdVault$Table", "holdNone", "()V"⟩, 9), (⟨"HouseholdVault$Table", "giveOneMore", "()V"⟩, 9), (⟨"HouseholdVault$Table", "hold", "(II)V"⟩, 9)]
theorem lw_r1 : ∀ q ∈ lw_privs_1, lw_okq q := List.forall_mem_cons.mpr ⟨lw_p0, List.forall_mem_cons.mpr ⟨lw_p1, List.forall_mem_cons.mpr ⟨lw_p2, List.forall_mem_cons.mpr ⟨lw_p3, List.forall_mem_cons.mpr ⟨lw_p4, List.forall_mem_cons.mpr ⟨lw_p5, List.forall_mem_cons.mpr ⟨lw_p6, List.forall_mem_cons.mpr ⟨lw_p7, List.forall_mem_cons.mpr ⟨lw_p8, List.forall_mem_cons.mpr ⟨lw_p9, List.forall_mem_cons.mpr ⟨lw_p10, List.forall_mem_cons.mpr ⟨lw_p11, List.forall_mem_cons.mpr ⟨lw_p12, List.forall_mem_cons.mpr ⟨lw_p13, List.forall_mem_cons.mpr ⟨lw_p14, List.forall_mem_cons.mpr ⟨lw_p15, fun _ h => absurd h List.not_mem_nil⟩⟩⟩⟩⟩⟩⟩⟩⟩⟩⟩⟩⟩⟩⟩⟩
theorem lw_p16 : lw_okq (⟨"HouseholdVault$Table", "isFree", "(II)Z"⟩, 9) := ⟨⟨by decide +kernel, by decide +kernel⟩, List.mem_of_getElem? (i := 61) (by decide +kernel), List.mem_of_getElem? (i := 653) (by decide +kernel), List.mem_of_getElem? (i := 654) (by decide +kernel)⟩
theorem lw_p17 : lw_okq (⟨"HouseholdVault$Table", "coverFor", "(II)I"⟩, 9) := ⟨⟨by decide +kernel, by decide +kernel⟩, List.mem_of_getElem? (i := 61) (by decide +kernel), List.mem_of_getElem? (i := 657) (by decide +kernel), List.mem_of_getElem? (i := 658) (by decide +kernel)⟩
theorem lw_p18 : lw_okq (⟨"HouseholdVault$Table", "leastOpen", "(IIII)I"⟩, 9) := ⟨⟨by decide +kernel, by decide +kernel⟩, List.mem_of_getElem? (i := 61) (by decide +kernel), List.mem_of_getElem? (i := 661) (by decide +kernel), List.mem_of_getElem? (i := 662) (by decide +kernel)⟩
theorem lw_p19 : lw_okq (⟨"HouseholdVault", "sortRising", "(II)I"⟩, 8) := ⟨⟨by decide +kernel, by decide +kernel⟩, List.mem_of_getElem? (i := 16) (by decide +kernel), List.mem_of_getElem? (i := 674) (by decide +kernel), List.mem_of_getElem? (i := 675) (by decide +kernel)⟩
theorem lw_p20 : lw_okq (⟨"HouseholdVault", "insertRising", "(III)V"⟩, 8) := ⟨⟨by decide +kernel, by decide +kernel⟩, List.mem_of_getElem? (i := 16) (by decide +kernel), List.mem_of_getElem? (i := 678) (by decide +kernel), List.mem_of_getElem? (i := 679) (by decide +kernel)⟩
theorem lw_p21 : lw_okq (⟨"HouseholdVault", "heightOf", "(II)J"⟩, 8) := ⟨⟨by decide +kernel, by decide +kernel⟩, List.mem_of_getElem? (i := 16) (by decide +kernel), List.mem_of_getElem? (i := 682) (by decide +kernel), List.mem_of_getElem? (i := 683) (by decide +kernel)⟩
theorem lw_p22 : lw_okq (⟨"HouseholdVault", "missingAt", "(II)I"⟩, 8) := ⟨⟨by decide +kernel, by decide +kernel⟩, List.mem_of_getElem? (i := 16) (by decide +kernel), List.mem_of_getElem? (i := 686) (by decide +kernel), List.mem_of_getElem? (i := 687) (by decide +kernel)⟩
theorem lw_p23 : lw_okq (⟨"HouseholdVault", "findDoubles", "(I)V"⟩, 8) := ⟨⟨by decide +kernel, by decide +kernel⟩, List.mem_of_getElem? (i := 16) (by decide +kernel), List.mem_of_getElem? (i := 702) (by decide +kernel), List.mem_of_getElem? (i := 703) (by decide +kernel)⟩
theorem lw_p24 : lw_okq (⟨"HouseholdVault", "areDoubles", "(LHouseholdVault$Sheet;LHouseholdVault$Sheet;)Z"⟩, 8) := ⟨⟨by decide +kernel, by decide +kernel⟩, List.mem_of_getElem? (i := 16) (by decide +kernel), List.mem_of_getElem? (i := 710) (by decide +kernel), List.mem_of_getElem? (i := 711) (by decide +kernel)⟩
theorem lw_p25 : lw_okq (⟨"HouseholdVault", "areLikeIn", "(ILHouseholdVault$Sheet;LHouseholdVault$Sheet;)Z"⟩, 8) := ⟨⟨by decide +kernel, by decide +kernel⟩, List.mem_of_getElem? (i := 16) (by decide +kernel), List.mem_of_getElem? (i := 718) (by decide +kernel), List.mem_of_getElem? (i := 719) (by decide +kernel)⟩
theorem lw_p26 : lw_okq (⟨"HouseholdVault", "frozenSheet", "(IIII)LHouseholdVault$Sheet;"⟩, 8) := ⟨⟨by decide +kernel, by decide +kernel⟩, List.mem_of_getElem? (i := 16) (by decide +kernel), List.mem_of_getElem? (i := 777) (by decide +kernel), List.mem_of_getElem? (i := 778) (by decide +kernel)⟩
theorem lw_p27 : lw_okq (⟨"HouseholdVault", "editionOf", "(I)LHouseholdVault$Edition;"⟩, 8) := ⟨⟨by decide +kernel, by decide +kernel⟩, List.mem_of_getElem? (i := 16) (by decide +kernel), List.mem_of_getElem? (i := 781) (by decide +kernel), List.mem_of_getElem? (i := 782) (by decide +kernel)⟩
theorem lw_p28 : lw_okq (⟨"HouseholdVault", "findChanges", "(LHouseholdVault$Edition;LHouseholdVault$Edition;I)V"⟩, 8) := ⟨⟨by decide +kernel, by decide +kernel⟩, List.mem_of_getElem? (i := 16) (by decide +kernel), List.mem_of_getElem? (i := 793) (by decide +kernel), List.mem_of_getElem? (i := 794) (by decide +kernel)⟩
theorem lw_p29 : lw_okq (⟨"HouseholdVault", "meetChanges", "(LHouseholdVault$Sheet;LHouseholdVault$Sheet;II)V"⟩, 8) := ⟨⟨by decide +kernel, by decide +kernel⟩, List.mem_of_getElem? (i := 16) (by decide +kernel), List.mem_of_getElem? (i := 798) (by decide +kernel), List.mem_of_getElem? (i := 799) (by decide +kernel)⟩
theorem lw_p30 : lw_okq (⟨"HouseholdVault", "bringBack", "(LHouseholdVault$Edition;I)I"⟩, 8) := ⟨⟨by decide +kernel, by decide +kernel⟩, List.mem_of_getElem? (i := 16) (by decide +kernel), List.mem_of_getElem? (i := 810) (by decide +kernel), List.mem_of_getElem? (i := 811) (by decide +kernel)⟩
theorem lw_p31 : lw_okq (⟨"HouseholdVaultModel", "isQuestion", "(I)Z"⟩, 53) := ⟨⟨by decide +kernel, by decide +kernel⟩, List.mem_of_getElem? (i := 823) (by decide +kernel), List.mem_of_getElem? (i := 999) (by decide +kernel), List.mem_of_getElem? (i := 1000) (by decide +kernel)⟩
def lw_privs_2 : List (MethodName × Nat) := [(⟨"HouseholdVault$Table", "isFree", "(II)Z"⟩, 9), (⟨"HouseholdVault$Table", "coverFor", "(II)I"⟩, 9), (⟨"HouseholdVault$Table", "leastOpen", "(IIII)I"⟩, 9), (⟨"HouseholdVault", "sortRising", "(II)I"⟩, 8), (⟨"HouseholdVault", "insertRising", "(III)V"⟩, 8), (⟨"HouseholdVault", "heightOf", "(II)J"⟩, 8), (⟨"HouseholdVault", "missingAt", "(II)I"⟩, 8), (⟨"HouseholdVault", "findDoubles", "(I)V"⟩, 8), (⟨"HouseholdVault", "areDoubles", "(LHouseholdVault$Sheet;LHouseholdVault$Sheet;)Z"⟩, 8), (⟨"HouseholdVault", "areLikeIn", "(ILHouseholdVault$Sheet;LHouseholdVault$Sheet;)Z"⟩, 8), (⟨"HouseholdVault", "frozenSheet", "(IIII)LHouseholdVault$Sheet;"⟩, 8), (⟨"HouseholdVault", "editionOf", "(I)LHouseholdVault$Edition;"⟩, 8), (⟨"HouseholdVault", "findChanges", "(LHouseholdVault$Edition;LHouseholdVault$Edition;I)V"⟩, 8), (⟨"HouseholdVault", "meetChanges", "(LHouseholdVault$Sheet;LHouseholdVault$Sheet;II)V"⟩, 8), (⟨"HouseholdVault", "bringBack", "(LHouseholdVault$Edition;I)I"⟩, 8), (⟨"HouseholdVaultModel", "isQuestion", "(I)Z"⟩, 53)]
theorem lw_r2 : ∀ q ∈ lw_privs_2, lw_okq q := List.forall_mem_cons.mpr ⟨lw_p16, List.forall_mem_cons.mpr ⟨lw_p17, List.forall_mem_cons.mpr ⟨lw_p18, List.forall_mem_cons.mpr ⟨lw_p19, List.forall_mem_cons.mpr ⟨lw_p20, List.forall_mem_cons.mpr ⟨lw_p21, List.forall_mem_cons.mpr ⟨lw_p22, List.forall_mem_cons.mpr ⟨lw_p23, List.forall_mem_cons.mpr ⟨lw_p24, List.forall_mem_cons.mpr ⟨lw_p25, List.forall_mem_cons.mpr ⟨lw_p26, List.forall_mem_cons.mpr ⟨lw_p27, List.forall_mem_cons.mpr ⟨lw_p28, List.forall_mem_cons.mpr ⟨lw_p29, List.forall_mem_cons.mpr ⟨lw_p30, List.forall_mem_cons.mpr ⟨lw_p31, fun _ h => absurd h List.not_mem_nil⟩⟩⟩⟩⟩⟩⟩⟩⟩⟩⟩⟩⟩⟩⟩⟩
theorem lw_p32 : lw_okq (⟨"HouseholdVaultModel", "add", "(III)I"⟩, 53) := ⟨⟨by decide +kernel, by decide +kernel⟩, List.mem_of_getElem? (i := 823) (by decide +kernel), List.mem_of_getElem? (i := 1003) (by decide +kernel), List.mem_of_getElem? (i := 1004) (by decide +kernel)⟩
theorem lw_p33 : lw_okq (⟨"HouseholdVaultModel", "blank", "(II)V"⟩, 53) := ⟨⟨by decide +kernel, by decide +kernel⟩, List.mem_of_getElem? (i := 823) (by decide +kernel), List.mem_of_getElem? (i := 1007) (by decide +kernel), List.mem_of_getElem? (i := 1008) (by decide +kernel)⟩
theorem lw_p34 : lw_okq (⟨"HouseholdVaultModel", "codeNumber", "(IJ)I"⟩, 53) := ⟨⟨by decide +kernel, by decide +kernel⟩, List.mem_of_getElem? (i := 823) (by decide +kernel), List.mem_of_getElem? (i := 1020) (by decide +kernel), List.mem_of_getElem? (i := 1021) (by decide +kernel)⟩
theorem lw_p35 : lw_okq (⟨"HouseholdVaultModel", "isCondition", "(I)Z"⟩, 53) := ⟨⟨by decide +kernel, by decide +kernel⟩, List.mem_of_getElem? (i := 823) (by decide +kernel), List.mem_of_getElem? (i := 1036) (by decide +kernel), List.mem_of_getElem? (i := 1037) (by decide +kernel)⟩
theorem lw_p36 : lw_okq (⟨"HouseholdVaultModel", "isPlace", "(III)Z"⟩, 53) := ⟨⟨by decide +kernel, by decide +kernel⟩, List.mem_of_getElem? (i := 823) (by decide +kernel), List.mem_of_getElem? (i := 1060) (by decide +kernel), List.mem_of_getElem? (i := 1061) (by decide +kernel)⟩
theorem lw_p37 : lw_okq (⟨"HouseholdVaultModel", "isHousehold", "(I)Z"⟩, 53) := ⟨⟨by decide +kernel, by decide +kernel⟩, List.mem_of_getElem? (i := 823) (by decide +kernel), List.mem_of_getElem? (i := 1064) (by decide +kernel), List.mem_of_getElem? (i := 1065) (by decide +kernel)⟩
theorem lw_p38 : lw_okq (⟨"HouseholdVaultModel", "persons", "(II)I"⟩, 53) := ⟨⟨by decide +kernel, by decide +kernel⟩, List.mem_of_getElem? (i := 823) (by decide +kernel), List.mem_of_getElem? (i := 1068) (by decide +kernel), List.mem_of_getElem? (i := 1069) (by decide +kernel)⟩
theorem lw_p39 : lw_okq (⟨"HouseholdVaultModel", "isValue", "(IJ)Z"⟩, 53) := ⟨⟨by decide +kernel, by decide +kernel⟩, List.mem_of_getElem? (i := 823) (by decide +kernel), List.mem_of_getElem? (i := 1072) (by decide +kernel), List.mem_of_getElem? (i := 1073) (by decide +kernel)⟩
theorem lw_p40 : lw_okq (⟨"HouseholdVaultModel", "people", "(III)V"⟩, 53) := ⟨⟨by decide +kernel, by decide +kernel⟩, List.mem_of_getElem? (i := 823) (by decide +kernel), List.mem_of_getElem? (i := 1080) (by decide +kernel), List.mem_of_getElem? (i := 1081) (by decide +kernel)⟩
theorem lw_p41 : lw_okq (⟨"HouseholdVaultModel", "workOut", "(I)V"⟩, 53) := ⟨⟨by decide +kernel, by decide +kernel⟩, List.mem_of_getElem? (i := 823) (by decide +kernel), List.mem_of_getElem? (i := 1092) (by decide +kernel), List.mem_of_getElem? (i := 1093) (by decide +kernel)⟩
theorem lw_p42 : lw_okq (⟨"HouseholdVaultModel", "told", "(IIJI)V"⟩, 53) := ⟨⟨by decide +kernel, by decide +kernel⟩, List.mem_of_getElem? (i := 823) (by decide +kernel), List.mem_of_getElem? (i := 1096) (by decide +kernel), List.mem_of_getElem? (i := 1097) (by decide +kernel)⟩
theorem lw_p43 : lw_okq (⟨"HouseholdVaultModel", "makeAt", "(II)V"⟩, 53) := ⟨⟨by decide +kernel, by decide +kernel⟩, List.mem_of_getElem? (i := 823) (by decide +kernel), List.mem_of_getElem? (i := 1100) (by decide +kernel), List.mem_of_getElem? (i := 1101) (by decide +kernel)⟩
theorem lw_p44 : lw_okq (⟨"HouseholdVaultModel", "mapAt", "(II)V"⟩, 53) := ⟨⟨by decide +kernel, by decide +kernel⟩, List.mem_of_getElem? (i := 823) (by decide +kernel), List.mem_of_getElem? (i := 1104) (by decide +kernel), List.mem_of_getElem? (i := 1105) (by decide +kernel)⟩
theorem lw_p45 : lw_okq (⟨"HouseholdVaultModel", "sayAt", "(II)V"⟩, 53) := ⟨⟨by decide +kernel, by decide +kernel⟩, List.mem_of_getElem? (i := 823) (by decide +kernel), List.mem_of_getElem? (i := 1108) (by decide +kernel), List.mem_of_getElem? (i := 1109) (by decide +kernel)⟩
theorem lw_p46 : lw_okq (⟨"HouseholdVaultModel", "isAsked", "(II)Z"⟩, 53) := ⟨⟨by decide +kernel, by decide +kernel⟩, List.mem_of_getElem? (i := 823) (by decide +kernel), List.mem_of_getElem? (i := 1112) (by decide +kernel), List.mem_of_getElem? (i := 1113) (by decide +kernel)⟩
theorem lw_p47 : lw_okq (⟨"HouseholdVaultModel", "isSaid", "(II)Z"⟩, 53) := ⟨⟨by decide +kernel, by decide +kernel⟩, List.mem_of_getElem? (i := 823) (by decide +kernel), List.mem_of_getElem? (i := 1116) (by decide +kernel), List.mem_of_getElem? (i := 1117) (by decide +kernel)⟩
def lw_privs_3 : List (MethodName × Nat) := [(⟨"HouseholdVaultModel", "add", "(III)I"⟩, 53), (⟨"HouseholdVaultModel", "blank", "(II)V"⟩, 53), (⟨"HouseholdVaultModel", "codeNumber", "(IJ)I"⟩, 53), (⟨"HouseholdVaultModel", "isCondition", "(I)Z"⟩, 53), (⟨"HouseholdVaultModel", "isPlace", "(III)Z"⟩, 53), (⟨"HouseholdVaultModel", "isHousehold", "(I)Z"⟩, 53), (⟨"HouseholdVaultModel", "persons", "(II)I"⟩, 53), (⟨"HouseholdVaultModel", "isValue", "(IJ)Z"⟩, 53), (⟨"HouseholdVaultModel", "people", "(III)V"⟩, 53), (⟨"HouseholdVaultModel", "workOut", "(I)V"⟩, 53), (⟨"HouseholdVaultModel", "told", "(IIJI)V"⟩, 53), (⟨"HouseholdVaultModel", "makeAt", "(II)V"⟩, 53), (⟨"HouseholdVaultModel", "mapAt", "(II)V"⟩, 53), (⟨"HouseholdVaultModel", "sayAt", "(II)V"⟩, 53), (⟨"HouseholdVaultModel", "isAsked", "(II)Z"⟩, 53), (⟨"HouseholdVaultModel", "isSaid", "(II)Z"⟩, 53)]
theorem lw_r3 : ∀ q ∈ lw_privs_3, lw_okq q := List.forall_mem_cons.mpr ⟨lw_p32, List.forall_mem_cons.mpr ⟨lw_p33, List.forall_mem_cons.mpr ⟨lw_p34, List.forall_mem_cons.mpr ⟨lw_p35, List.forall_mem_cons.mpr ⟨lw_p36, List.forall_mem_cons.mpr ⟨lw_p37, List.forall_mem_cons.mpr ⟨lw_p38, List.forall_mem_cons.mpr ⟨lw_p39, List.forall_mem_cons.mpr ⟨lw_p40, List.forall_mem_cons.mpr ⟨lw_p41, List.forall_mem_cons.mpr ⟨lw_p42, List.forall_mem_cons.mpr ⟨lw_p43, List.forall_mem_cons.mpr ⟨lw_p44, List.forall_mem_cons.mpr ⟨lw_p45, List.forall_mem_cons.mpr ⟨lw_p46, List.forall_mem_cons.mpr ⟨lw_p47, fun _ h => absurd h List.not_mem_nil⟩⟩⟩⟩⟩⟩⟩⟩⟩⟩⟩⟩⟩⟩⟩⟩
theorem lw_p48 : lw_okq (⟨"HouseholdVaultModel", "condition", "(IIII)I"⟩, 53) := ⟨⟨by decide +kernel, by decide +kernel⟩, List.mem_of_getElem? (i := 823) (by decide +kernel), List.mem_of_getElem? (i := 1130) (by decide +kernel), List.mem_of_getElem? (i := 1131) (by decide +kernel)⟩
theorem lw_p49 : lw_okq (⟨"HouseholdVaultModel", "countAgainst", "(I)I"⟩, 53) := ⟨⟨by decide +kernel, by decide +kernel⟩, List.mem_of_getElem? (i := 823) (by decide +kernel), List.mem_of_getElem? (i := 1155) (by decide +kernel), List.mem_of_getElem? (i := 1156) (by decide +kernel)⟩
theorem lw_p50 : lw_okq (⟨"HouseholdVaultModel", "isAgainst", "(II)Z"⟩, 53) := ⟨⟨by decide +kernel, by decide +kernel⟩, List.mem_of_getElem? (i := 823) (by decide +kernel), List.mem_of_getElem? (i := 1159) (by decide +kernel), List.mem_of_getElem? (i := 1160) (by decide +kernel)⟩
theorem lw_p51 : lw_okq (⟨"HouseholdVaultModel", "sought", "(I)I"⟩, 53) := ⟨⟨by decide +kernel, by decide +kernel⟩, List.mem_of_getElem? (i := 823) (by decide +kernel), List.mem_of_getElem? (i := 1167) (by decide +kernel), List.mem_of_getElem? (i := 1168) (by decide +kernel)⟩
theorem lw_p52 : lw_okq (⟨"HouseholdVaultModel", "isCodeAtTop", "(I)Z"⟩, 53) := ⟨⟨by decide +kernel, by decide +kernel⟩, List.mem_of_getElem? (i := 823) (by decide +kernel), List.mem_of_getElem? (i := 1181) (by decide +kernel), List.mem_of_getElem? (i := 1182) (by decide +kernel)⟩
theorem lw_p53 : lw_okq (⟨"HouseholdVaultModel", "line", "(I)I"⟩, 53) := ⟨⟨by decide +kernel, by decide +kernel⟩, List.mem_of_getElem? (i := 823) (by decide +kernel), List.mem_of_getElem? (i := 1185) (by decide +kernel), List.mem_of_getElem? (i := 1186) (by decide +kernel)⟩
theorem lw_p54 : lw_okq (⟨"HouseholdVaultModel", "isCell", "(II)Z"⟩, 53) := ⟨⟨by decide +kernel, by decide +kernel⟩, List.mem_of_getElem? (i := 823) (by decide +kernel), List.mem_of_getElem? (i := 1193) (by decide +kernel), List.mem_of_getElem? (i := 1194) (by decide +kernel)⟩
theorem lw_p55 : lw_okq (⟨"HouseholdVaultModel", "firstFollowing", "()I"⟩, 53) := ⟨⟨by decide +kernel, by decide +kernel⟩, List.mem_of_getElem? (i := 823) (by decide +kernel), List.mem_of_getElem? (i := 1211) (by decide +kernel), List.mem_of_getElem? (i := 1212) (by decide +kernel)⟩
theorem lw_p56 : lw_okq (⟨"HouseholdVaultModel", "isFollowing", "(I)Z"⟩, 53) := ⟨⟨by decide +kernel, by decide +kernel⟩, List.mem_of_getElem? (i := 823) (by decide +kernel), List.mem_of_getElem? (i := 1215) (by decide +kernel), List.mem_of_getElem? (i := 1216) (by decide +kernel)⟩
theorem lw_p57 : lw_okq (⟨"HouseholdVaultModel", "hangTogether", "(III)Z"⟩, 53) := ⟨⟨by decide +kernel, by decide +kernel⟩, List.mem_of_getElem? (i := 823) (by decide +kernel), List.mem_of_getElem? (i := 1219) (by decide +kernel), List.mem_of_getElem? (i := 1220) (by decide +kernel)⟩
theorem lw_p58 : lw_okq (⟨"HouseholdVaultModel", "leastOf", "(II)I"⟩, 53) := ⟨⟨by decide +kernel, by decide +kernel⟩, List.mem_of_getElem? (i := 823) (by decide +kernel), List.mem_of_getElem? (i := 1223) (by decide +kernel), List.mem_of_getElem? (i := 1224) (by decide +kernel)⟩
theorem lw_p59 : lw_okq (⟨"HouseholdVaultModel", "countDoubles", "(I)I"⟩, 53) := ⟨⟨by decide +kernel, by decide +kernel⟩, List.mem_of_getElem? (i := 823) (by decide +kernel), List.mem_of_getElem? (i := 1248) (by decide +kernel), List.mem_of_getElem? (i := 1249) (by decide +kernel)⟩
theorem lw_p60 : lw_okq (⟨"HouseholdVaultModel", "areDouble", "(II)Z"⟩, 53) := ⟨⟨by decide +kernel, by decide +kernel⟩, List.mem_of_getElem? (i := 823) (by decide +kernel), List.mem_of_getElem? (i := 1252) (by decide +kernel), List.mem_of_getElem? (i := 1253) (by decide +kernel)⟩
theorem lw_p61 : lw_okq (⟨"HouseholdVaultModel", "areLike", "(IIII)Z"⟩, 53) := ⟨⟨by decide +kernel, by decide +kernel⟩, List.mem_of_getElem? (i := 823) (by decide +kernel), List.mem_of_getElem? (i := 1256) (by decide +kernel), List.mem_of_getElem? (i := 1257) (by decide +kernel)⟩
theorem lw_p62 : lw_okq (⟨"HouseholdVaultModel", "isFrozen", "(IIII)Z"⟩, 53) := ⟨⟨by decide +kernel, by decide +kernel⟩, List.mem_of_getElem? (i := 823) (by decide +kernel), List.mem_of_getElem? (i := 1272) (by decide +kernel), List.mem_of_getElem? (i := 1273) (by decide +kernel)⟩
theorem lw_p63 : lw_okq (⟨"HouseholdVaultModel", "isEdition", "(I)Z"⟩, 53) := ⟨⟨by decide +kernel, by decide +kernel⟩, List.mem_of_getElem? (i := 823) (by decide +kernel), List.mem_of_getElem? (i := 1276) (by decide +kernel), List.mem_of_getElem? (i := 1277) (by decide +kernel)⟩
def lw_privs_4 : List (MethodName × Nat) := [(⟨"HouseholdVaultModel", "condition", "(IIII)I"⟩, 53), (⟨"HouseholdVaultModel", "countAgainst", "(I)I"⟩, 53), (⟨"HouseholdVaultModel", "isAgainst", "(II)Z"⟩, 53), (⟨"HouseholdVaultModel", "sought", "(I)I"⟩, 53), (⟨"HouseholdVaultModel", "isCodeAtTop", "(I)Z"⟩, 53), (⟨"HouseholdVaultModel", "line", "(I)I"⟩, 53), (⟨"HouseholdVaultModel", "isCell", "(II)Z"⟩, 53), (⟨"HouseholdVaultModel", "firstFollowing", "()I"⟩, 53), (⟨"HouseholdVaultModel", "isFollowing", "(I)Z"⟩, 53), (⟨"HouseholdVaultModel", "hangTogether", "(III)Z"⟩, 53), (⟨"HouseholdVaultModel", "leastOf", "(II)I"⟩, 53), (⟨"HouseholdVaultModel", "countDoubles", "(I)I"⟩, 53), (⟨"HouseholdVaultModel", "areDouble", "(II)Z"⟩, 53), (⟨"HouseholdVaultModel", "areLike", "(IIII)Z"⟩, 53), (⟨"HouseholdVaultModel", "isFrozen", "(IIII)Z"⟩, 53), (⟨"HouseholdVaultModel", "isEdition", "(I)Z"⟩, 53)]
theorem lw_r4 : ∀ q ∈ lw_privs_4, lw_okq q := List.forall_mem_cons.mpr ⟨lw_p48, List.forall_mem_cons.mpr ⟨lw_p49, List.forall_mem_cons.mpr ⟨lw_p50, List.forall_mem_cons.mpr ⟨lw_p51, List.forall_mem_cons.mpr ⟨lw_p52, List.forall_mem_cons.mpr ⟨lw_p53, List.forall_mem_cons.mpr ⟨lw_p54, List.forall_mem_cons.mpr ⟨lw_p55, List.forall_mem_cons.mpr ⟨lw_p56, List.forall_mem_cons.mpr ⟨lw_p57, List.forall_mem_cons.mpr ⟨lw_p58, List.forall_mem_cons.mpr ⟨lw_p59, List.forall_mem_cons.mpr ⟨lw_p60, List.forall_mem_cons.mpr ⟨lw_p61, List.forall_mem_cons.mpr ⟨lw_p62, List.forall_mem_cons.mpr ⟨lw_p63, fun _ h => absurd h List.not_mem_nil⟩⟩⟩⟩⟩⟩⟩⟩⟩⟩⟩⟩⟩⟩⟩⟩
theorem lw_p64 : lw_okq (⟨"HouseholdVaultModel", "personsThen", "(III)I"⟩, 53) := ⟨⟨by decide +kernel, by decide +kernel⟩, List.mem_of_getElem? (i := 823) (by decide +kernel), List.mem_of_getElem? (i := 1280) (by decide +kernel), List.mem_of_getElem? (i := 1281) (by decide +kernel)⟩
theorem lw_p65 : lw_okq (⟨"HouseholdVaultModel", "countChanges", "(III)I"⟩, 53) := ⟨⟨by decide +kernel, by decide +kernel⟩, List.mem_of_getElem? (i := 823) (by decide +kernel), List.mem_of_getElem? (i := 1292) (by decide +kernel), List.mem_of_getElem? (i := 1293) (by decide +kernel)⟩
theorem lw_p66 : lw_okq (⟨"HouseholdVaultModel", "isChanged", "(IIIII)Z"⟩, 53) := ⟨⟨by decide +kernel, by decide +kernel⟩, List.mem_of_getElem? (i := 823) (by decide +kernel), List.mem_of_getElem? (i := 1296) (by decide +kernel), List.mem_of_getElem? (i := 1297) (by decide +kernel)⟩
def lw_privs_5 : List (MethodName × Nat) := [(⟨"HouseholdVaultModel", "personsThen", "(III)I"⟩, 53), (⟨"HouseholdVaultModel", "countChanges", "(III)I"⟩, 53), (⟨"HouseholdVaultModel", "isChanged", "(IIIII)Z"⟩, 53)]
theorem lw_r5 : ∀ q ∈ lw_privs_5, lw_okq q := List.forall_mem_cons.mpr ⟨lw_p64, List.forall_mem_cons.mpr ⟨lw_p65, List.forall_mem_cons.mpr ⟨lw_p66, fun _ h => absurd h List.not_mem_nil⟩⟩⟩
def lw_privs : List (MethodName × Nat) := lw_privs_1 ++ (lw_privs_2 ++ (lw_privs_3 ++ (lw_privs_4 ++ (lw_privs_5))))
def lw_tbl : List Cond := k2_sels lw_privs ++ tables_1
theorem lw_privs_ok : ∀ q ∈ lw_privs, lw_okq q := by
  show ∀ q ∈ lw_privs_1 ++ (lw_privs_2 ++ (lw_privs_3 ++ (lw_privs_4 ++ (lw_privs_5)))), lw_okq q
  exact List.forall_mem_append.mpr ⟨lw_r1, List.forall_mem_append.mpr ⟨lw_r2, List.forall_mem_append.mpr ⟨lw_r3, List.forall_mem_append.mpr ⟨lw_r4, lw_r5⟩⟩⟩⟩
/-! ===== BEGIN words of one list among another's, by their places ===== -/
theorem goodIn_r {big : List Cond} (ws : List Cond) (ps : List Nat) (hp : ws = ps.filterMap (fun i => big[i]?)) (h : ws.all goodWord = true) : GoodIn big ws := by
  intro w hw
  have h1 := List.all_eq_true.mp h w hw
  rw [hp] at hw
  obtain ⟨i, -, hi⟩ := List.mem_filterMap.mp hw
  have hm : w ∈ big := by first | exact List.mem_of_getElem? hi | exact List.getElem?_mem hi
  exact ⟨hm, good_of_word h1⟩
theorem goodIn_app {big a b : List Cond} (ha : GoodIn big a) (hb : GoodIn big b) : GoodIn big (a ++ b) := fun w h => (List.mem_append.mp h).elim (ha w) (hb w)
theorem goodIn_ca {big a b : List Cond} {c : Cond} (ha : GoodIn big (c :: a)) (hb : GoodIn big b) : GoodIn big (c :: (a ++ b)) := fun w h => (List.mem_cons.mp h).elim (fun e => ha w (List.mem_cons.mpr (Or.inl e))) (fun h => (List.mem_append.mp h).elim (fun h => ha w (List.mem_cons.mpr (Or.inr h))) (hb w))
theorem goodIn_sub {big ws : List Cond} (hm : ∀ w ∈ ws, w ∈ big) (h : ws.all goodWord = true) : GoodIn big ws := fun w hw => ⟨hm w hw, good_of_word (List.all_eq_true.mp h w hw)⟩
/-! ===== END ===== -/
/-! ===== BEGIN printed: names, fields, word lists, decode rows ===== -/
def RX0 : String := "HouseholdVault$Condition"
def TX0 : u_T := fun k => match k with
  | 0 => ("HouseholdVault$Condition", "way", "I", true)
  | 1 => ("HouseholdVault$Condition", "first", "I", true)
  | 2 => ("HouseholdVault$Condition", "second", "I", true)
  | 3 => ("HouseholdVault$Condition", "v", "J", true)
  | 4 => ("HouseholdVault$Condition", "reach", "I", true)
  | 5 => ("HouseholdVault$Condition", "size", "I", true)
  | _ => ("HouseholdVault$Condition", "newest", "I", true)
def tyX0 : Nat → FieldType := fun k => match k with
  | 0 => .int
  | 1 => .int
  | 2 => .int
  | 3 => .long
  | 4 => .int
  | 5 => .int
  | _ => .int
abbrev wsX00 : List Cond := u_ws RX0 TX0 7
theorem nmX0 : ∀ a, a < 7 → ∀ b, b < 7 → a ≠ b → (TX0 a).2.1 ≠ (TX0 b).2.1 := by decide +kernel
theorem tyX0_ok : ∀ k, k < 7 → parseFieldDescriptor (TX0 k).2.2.1 = some (tyX0 k) := by decide +kernel
abbrev cX0_init : ByteArray := prog_2_method_1_code
def yX0_init : MethodName := ⟨RX0, "<init>", "(IIIJIII)V"⟩
abbrev cX0_fits : ByteArray := prog_2_method_2_code
def yX0_fits : MethodName := ⟨RX0, "fits", "(JIZ)Z"⟩
def RX1 : String := "HouseholdVault$Edition"
def TX1 : u_T := fun k => match k with
  | 0 => ("HouseholdVault$Edition", "sheets", "[LHouseholdVault$Sheet;", true)
  | _ => ("HouseholdVault$Edition", "questionCount", "I", true)
def tyX1 : Nat → FieldType := fun k => match k with
  | 0 => .array (.object "HouseholdVault$Sheet")
  | _ => .int
abbrev wsX10 : List Cond := u_ws RX1 TX1 2
theorem nmX1 : ∀ a, a < 2 → ∀ b, b < 2 → a ≠ b → (TX1 a).2.1 ≠ (TX1 b).2.1 := by decide +kernel
theorem tyX1_ok : ∀ k, k < 2 → parseFieldDescriptor (TX1 k).2.2.1 = some (tyX1 k) := by decide +kernel
abbrev cX1_init : ByteArray := prog_3_method_1_code
def yX1_init : MethodName := ⟨RX1, "<init>", "([LHouseholdVault$Sheet;I)V"⟩
def RX2 : String := "HouseholdVault$Finder"
def TX2 : u_T := fun k => match k with
  | 0 => ("HouseholdVault$Finder", "wanted", "I", false)
  | 1 => ("HouseholdVault$Finder", "seen", "I", false)
  | 2 => ("HouseholdVault$Finder", "first", "I", false)
  | 3 => ("HouseholdVault$Finder", "second", "I", false)
  | _ => ("HouseholdVault$Finder", "third", "I", false)
def tyX2 : Nat → FieldType := fun k => match k with
  | 0 => .int
  | 1 => .int
  | 2 => .int
  | 3 => .int
  | _ => .int
abbrev wsX20 : List Cond := u_ws RX2 TX2 5
theorem nmX2 : ∀ a, a < 5 → ∀ b, b < 5 → a ≠ b → (TX2 a).2.1 ≠ (TX2 b).2.1 := by decide +kernel
theorem tyX2_ok : ∀ k, k < 5 → parseFieldDescriptor (TX2 k).2.2.1 = some (tyX2 k) := by decide +kernel
abbrev cX2_init : ByteArray := prog_4_method_1_code
def yX2_init : MethodName := ⟨RX2, "<init>", "()V"⟩
abbrev cX2_start : ByteArray := prog_4_method_2_code
def yX2_start : MethodName := ⟨RX2, "start", "(I)V"⟩
abbrev cX2_meet : ByteArray := prog_4_method_3_code
def yX2_meet : MethodName := ⟨RX2, "meet", "(III)V"⟩
abbrev cX2_told : ByteArray := prog_4_method_4_code
def yX2_told : MethodName := ⟨RX2, "told", "(III)I"⟩
def RX3 : String := "HouseholdVault$Form"
def TX3 : u_T := fun k => match k with
  | 0 => ("HouseholdVault$Form", "questions", "[LHouseholdVault$Question;", true)
  | 1 => ("HouseholdVault$Form", "questionCount", "I", false)
  | 2 => ("HouseholdVault$Form", "conditions", "[LHouseholdVault$Condition;", true)
  | 3 => ("HouseholdVault$Form", "conditionCount", "I", false)
  | 4 => ("HouseholdVault$Form", "steps", "[I", true)
  | _ => ("HouseholdVault$Form", "stepCount", "I", false)
def tyX3 : Nat → FieldType := fun k => match k with
  | 0 => .array (.object "HouseholdVault$Question")
  | 1 => .int
  | 2 => .array (.object "HouseholdVault$Condition")
  | 3 => .int
  | 4 => .array .int
  | _ => .int
abbrev wsX30 : List Cond := u_ws RX3 TX3 6
theorem nmX3 : ∀ a, a < 6 → ∀ b, b < 6 → a ≠ b → (TX3 a).2.1 ≠ (TX3 b).2.1 := by decide +kernel
theorem tyX3_ok : ∀ k, k < 6 → parseFieldDescriptor (TX3 k).2.2.1 = some (tyX3 k) := by decide +kernel
abbrev cX3_init : ByteArray := prog_5_method_1_code
def yX3_init : MethodName := ⟨RX3, "<init>", "()V"⟩
abbrev cX3_questionOf : ByteArray := prog_5_method_2_code
def yX3_questionOf : MethodName := ⟨RX3, "questionOf", "(I)LHouseholdVault$Question;"⟩
abbrev cX3_conditionOf : ByteArray := prog_5_method_3_code
def yX3_conditionOf : MethodName := ⟨RX3, "conditionOf", "(I)LHouseholdVault$Condition;"⟩
abbrev cX3_questionsAreFull : ByteArray := prog_5_method_4_code
def yX3_questionsAreFull : MethodName := ⟨RX3, "questionsAreFull", "()Z"⟩
abbrev cX3_conditionsAreFull : ByteArray := prog_5_method_5_code
def yX3_conditionsAreFull : MethodName := ⟨RX3, "conditionsAreFull", "(I)Z"⟩
abbrev cX3_addQuestion : ByteArray := prog_5_method_6_code
def yX3_addQuestion : MethodName := ⟨RX3, "addQuestion", "(LHouseholdVault$Question;)I"⟩
abbrev cX3_addCondition : ByteArray := prog_5_method_7_code
def yX3_addCondition : MethodName := ⟨RX3, "addCondition", "(LHouseholdVault$Condition;)I"⟩
abbrev cX3_addStep : ByteArray := prog_5_method_8_code
def yX3_addStep : MethodName := ⟨RX3, "addStep", "(I)I"⟩
abbrev cX3_hasMarked : ByteArray := prog_5_method_9_code
def yX3_hasMarked : MethodName := ⟨RX3, "hasMarked", "()Z"⟩
abbrev cX3_settle : ByteArray := prog_5_method_10_code
def yX3_settle : MethodName := ⟨RX3, "settle", "(LHouseholdVault$Household;)V"⟩
abbrev cX3_makeHowMany : ByteArray := prog_5_method_11_code
def yX3_makeHowMany : MethodName := ⟨RX3, "makeHowMany", "(LHouseholdVault$Household;I)V"⟩
abbrev cX3_makeMapped : ByteArray := prog_5_method_12_code
def yX3_makeMapped : MethodName := ⟨RX3, "makeMapped", "(LHouseholdVault$Sheet;I)V"⟩
abbrev cX3_makeSum : ByteArray := prog_5_method_13_code
def yX3_makeSum : MethodName := ⟨RX3, "makeSum", "(LHouseholdVault$Sheet;I)V"⟩
abbrev cX3_makeTruths : ByteArray := prog_5_method_14_code
def yX3_makeTruths : MethodName := ⟨RX3, "makeTruths", "(LHouseholdVault$Household;I)V"⟩
abbrev cX3_spread : ByteArray := prog_5_method_15_code
def yX3_spread : MethodName := ⟨RX3, "spread", "(LHouseholdVault$Household;II)I"⟩
abbrev cX3_bitsOfAsk : ByteArray := prog_5_method_16_code
def yX3_bitsOfAsk : MethodName := ⟨RX3, "bitsOfAsk", "(LHouseholdVault$Sheet;LHouseholdVault$Condition;I)I"⟩
def RX4 : String := "HouseholdVault$Household"
def TX4 : u_T := fun k => match k with
  | 0 => ("HouseholdVault$Household", "sheet", "LHouseholdVault$Sheet;", true)
  | 1 => ("HouseholdVault$Household", "truths", "[I", true)
  | 2 => ("HouseholdVault$Household", "settled", "I", false)
  | _ => ("HouseholdVault$Household", "weight", "I", false)
def tyX4 : Nat → FieldType := fun k => match k with
  | 0 => .object "HouseholdVault$Sheet"
  | 1 => .array .int
  | 2 => .int
  | _ => .int
abbrev wsX40 : List Cond := u_ws RX4 TX4 4
theorem nmX4 : ∀ a, a < 4 → ∀ b, b < 4 → a ≠ b → (TX4 a).2.1 ≠ (TX4 b).2.1 := by decide +kernel
theorem tyX4_ok : ∀ k, k < 4 → parseFieldDescriptor (TX4 k).2.2.1 = some (tyX4 k) := by decide +kernel
abbrev cX4_init : ByteArray := prog_6_method_1_code
def yX4_init : MethodName := ⟨RX4, "<init>", "()V"⟩
abbrev cX4_unsettle : ByteArray := prog_6_method_2_code
def yX4_unsettle : MethodName := ⟨RX4, "unsettle", "(I)V"⟩
abbrev cX4_isSo : ByteArray := prog_6_method_3_code
def yX4_isSo : MethodName := ⟨RX4, "isSo", "(III)Z"⟩
def RX5 : String := "HouseholdVault$Question"
def TX5 : u_T := fun k => match k with
  | 0 => ("HouseholdVault$Question", "kind", "I", true)
  | 1 => ("HouseholdVault$Question", "roster", "I", true)
  | 2 => ("HouseholdVault$Question", "made", "I", true)
  | 3 => ("HouseholdVault$Question", "source", "I", true)
  | 4 => ("HouseholdVault$Question", "codes", "[I", true)
  | 5 => ("HouseholdVault$Question", "codeCount", "I", false)
  | 6 => ("HouseholdVault$Question", "lows", "[J", true)
  | 7 => ("HouseholdVault$Question", "highs", "[J", true)
  | 8 => ("HouseholdVault$Question", "rowCodes", "[I", true)
  | 9 => ("HouseholdVault$Question", "rowCount", "I", false)
  | 10 => ("HouseholdVault$Question", "filter", "I", false)
  | 11 => ("HouseholdVault$Question", "marked", "Z", false)
  | _ => ("HouseholdVault$Question", "step", "I", false)
def tyX5 : Nat → FieldType := fun k => match k with
  | 0 => .int
  | 1 => .int
  | 2 => .int
  | 3 => .int
  | 4 => .array .int
  | 5 => .int
  | 6 => .array .long
  | 7 => .array .long
  | 8 => .array .int
  | 9 => .int
  | 10 => .int
  | 11 => .boolean
  | _ => .int
abbrev wsX50 : List Cond := u_ws RX5 TX5 13
theorem nmX5 : ∀ a, a < 13 → ∀ b, b < 13 → a ≠ b → (TX5 a).2.1 ≠ (TX5 b).2.1 := by decide +kernel
theorem tyX5_ok : ∀ k, k < 13 → parseFieldDescriptor (TX5 k).2.2.1 = some (tyX5 k) := by decide +kernel
abbrev cX5_init : ByteArray := prog_7_method_1_code
def yX5_init : MethodName := ⟨RX5, "<init>", "(IIII)V"⟩
abbrev cX5_codeIndex : ByteArray := prog_7_method_2_code
def yX5_codeIndex : MethodName := ⟨RX5, "codeIndex", "(J)I"⟩
abbrev cX5_addCode : ByteArray := prog_7_method_3_code
def yX5_addCode : MethodName := ⟨RX5, "addCode", "(I)V"⟩
abbrev cX5_addRow : ByteArray := prog_7_method_4_code
def yX5_addRow : MethodName := ⟨RX5, "addRow", "(JJI)V"⟩
abbrev cX5_rowAround : ByteArray := prog_7_method_5_code
def yX5_rowAround : MethodName := ⟨RX5, "rowAround", "(J)I"⟩
abbrev cX5_takes : ByteArray := prog_7_method_6_code
def yX5_takes : MethodName := ⟨RX5, "takes", "(J)Z"⟩
abbrev cX5_makesLines : ByteArray := prog_7_method_7_code
def yX5_makesLines : MethodName := ⟨RX5, "makesLines", "()Z"⟩
abbrev cX5_lineOf : ByteArray := prog_7_method_8_code
def yX5_lineOf : MethodName := ⟨RX5, "lineOf", "(LHouseholdVault$Sheet;I)I"⟩
def RX6 : String := "HouseholdVault$Sheet"
def TX6 : u_T := fun k => match k with
  | 0 => ("HouseholdVault$Sheet", "values", "[J", true)
  | _ => ("HouseholdVault$Sheet", "reasons", "[I", true)
def tyX6 : Nat → FieldType := fun k => match k with
  | 0 => .array .long
  | _ => .array .int
abbrev wsX60 : List Cond := u_ws RX6 TX6 2
theorem nmX6 : ∀ a, a < 2 → ∀ b, b < 2 → a ≠ b → (TX6 a).2.1 ≠ (TX6 b).2.1 := by decide +kernel
theorem tyX6_ok : ∀ k, k < 2 → parseFieldDescriptor (TX6 k).2.2.1 = some (tyX6 k) := by decide +kernel
abbrev cX6_init : ByteArray := prog_8_method_1_code
def yX6_init : MethodName := ⟨RX6, "<init>", "()V"⟩
abbrev cX6_init_ : ByteArray := prog_8_method_2_code
def yX6_init_ : MethodName := ⟨RX6, "<init>", "(LHouseholdVault$Sheet;I)V"⟩
abbrev cX6_persons : ByteArray := prog_8_method_3_code
def yX6_persons : MethodName := ⟨RX6, "persons", "(I)I"⟩
abbrev cX6_put : ByteArray := prog_8_method_4_code
def yX6_put : MethodName := ⟨RX6, "put", "(IJ)V"⟩
abbrev cX6_lack : ByteArray := prog_8_method_5_code
def yX6_lack : MethodName := ⟨RX6, "lack", "(II)V"⟩
abbrev cX6_isLike : ByteArray := prog_8_method_6_code
def yX6_isLike : MethodName := ⟨RX6, "isLike", "(LHouseholdVault$Sheet;I)Z"⟩
abbrev cX6_takeFrom : ByteArray := prog_8_method_7_code
def yX6_takeFrom : MethodName := ⟨RX6, "takeFrom", "(LHouseholdVault$Sheet;I)Z"⟩
def RX7 : String := "HouseholdVault$Table"
def TX7 : u_T := fun k => match k with
  | 0 => ("HouseholdVault$Table", "rows", "I", false)
  | 1 => ("HouseholdVault$Table", "columns", "I", false)
  | 2 => ("HouseholdVault$Table", "byTwo", "Z", false)
  | 3 => ("HouseholdVault$Table", "counts", "[I", true)
  | 4 => ("HouseholdVault$Table", "weights", "[J", true)
  | 5 => ("HouseholdVault$Table", "shares", "[I", true)
  | 6 => ("HouseholdVault$Table", "remainders", "[J", true)
  | 7 => ("HouseholdVault$Table", "heldInRow", "[I", true)
  | _ => ("HouseholdVault$Table", "heldCount", "I", false)
def tyX7 : Nat → FieldType := fun k => match k with
  | 0 => .int
  | 1 => .int
  | 2 => .boolean
  | 3 => .array .int
  | 4 => .array .long
  | 5 => .array .int
  | 6 => .array .long
  | 7 => .array .int
  | _ => .int
abbrev wsX70 : List Cond := u_ws RX7 TX7 9
theorem nmX7 : ∀ a, a < 9 → ∀ b, b < 9 → a ≠ b → (TX7 a).2.1 ≠ (TX7 b).2.1 := by decide +kernel
theorem tyX7_ok : ∀ k, k < 9 → parseFieldDescriptor (TX7 k).2.2.1 = some (tyX7 k) := by decide +kernel
abbrev cX7_init : ByteArray := prog_9_method_1_code
def yX7_init : MethodName := ⟨RX7, "<init>", "()V"⟩
abbrev cX7_start : ByteArray := prog_9_method_2_code
def yX7_start : MethodName := ⟨RX7, "start", "(IIZ)V"⟩
abbrev cX7_isNone : ByteArray := prog_9_method_3_code
def yX7_isNone : MethodName := ⟨RX7, "isNone", "()Z"⟩
abbrev cX7_cells : ByteArray := prog_9_method_4_code
def yX7_cells : MethodName := ⟨RX7, "cells", "()I"⟩
abbrev cX7_hasCell : ByteArray := prog_9_method_5_code
def yX7_hasCell : MethodName := ⟨RX7, "hasCell", "(II)Z"⟩
abbrev cX7_at : ByteArray := prog_9_method_6_code
def yX7_at : MethodName := ⟨RX7, "at", "(II)I"⟩
abbrev cX7_add : ByteArray := prog_9_method_7_code
def yX7_add : MethodName := ⟨RX7, "add", "(III)V"⟩
abbrev cX7_reckonShares : ByteArray := prog_9_method_8_code
def yX7_reckonShares : MethodName := ⟨RX7, "reckonShares", "(I)Z"⟩
abbrev cX7_giveOneMore : ByteArray := prog_9_method_9_code
def yX7_giveOneMore : MethodName := ⟨RX7, "giveOneMore", "()V"⟩
abbrev cX7_isHeld : ByteArray := prog_9_method_10_code
def yX7_isHeld : MethodName := ⟨RX7, "isHeld", "(II)Z"⟩
abbrev cX7_hold : ByteArray := prog_9_method_11_code
def yX7_hold : MethodName := ⟨RX7, "hold", "(II)V"⟩
abbrev cX7_holdNone : ByteArray := prog_9_method_12_code
def yX7_holdNone : MethodName := ⟨RX7, "holdNone", "()V"⟩
abbrev cX7_holdBelow : ByteArray := prog_9_method_13_code
def yX7_holdBelow : MethodName := ⟨RX7, "holdBelow", "(I)V"⟩
abbrev cX7_holdUntilNoneFollows : ByteArray := prog_9_method_14_code
def yX7_holdUntilNoneFollows : MethodName := ⟨RX7, "holdUntilNoneFollows", "()V"⟩
abbrev cX7_coverFor : ByteArray := prog_9_method_15_code
def yX7_coverFor : MethodName := ⟨RX7, "coverFor", "(II)I"⟩
abbrev cX7_leastOpen : ByteArray := prog_9_method_16_code
def yX7_leastOpen : MethodName := ⟨RX7, "leastOpen", "(IIII)I"⟩
abbrev cX7_firstFollowing : ByteArray := prog_9_method_17_code
def yX7_firstFollowing : MethodName := ⟨RX7, "firstFollowing", "()I"⟩
abbrev cX7_isFree : ByteArray := prog_9_method_18_code
def yX7_isFree : MethodName := ⟨RX7, "isFree", "(II)Z"⟩
def RX8 : String := "HouseholdVault"
def TX8 : u_T := fun k => match k with
  | 0 => ("HouseholdVault", "form", "LHouseholdVault$Form;", true)
  | 1 => ("HouseholdVault", "households", "[LHouseholdVault$Household;", true)
  | 2 => ("HouseholdVault", "householdCount", "I", false)
  | 3 => ("HouseholdVault", "editions", "[LHouseholdVault$Edition;", true)
  | 4 => ("HouseholdVault", "editionCount", "I", false)
  | 5 => ("HouseholdVault", "table", "LHouseholdVault$Table;", true)
  | 6 => ("HouseholdVault", "finder", "LHouseholdVault$Finder;", true)
  | _ => ("HouseholdVault", "rising", "[I", true)
def tyX8 : Nat → FieldType := fun k => match k with
  | 0 => .object "HouseholdVault$Form"
  | 1 => .array (.object "HouseholdVault$Household")
  | 2 => .int
  | 3 => .array (.object "HouseholdVault$Edition")
  | 4 => .int
  | 5 => .object "HouseholdVault$Table"
  | 6 => .object "HouseholdVault$Finder"
  | _ => .array .int
abbrev wsX80 : List Cond := u_ws RX8 TX8 8
theorem nmX8 : ∀ a, a < 8 → ∀ b, b < 8 → a ≠ b → (TX8 a).2.1 ≠ (TX8 b).2.1 := by decide +kernel
theorem tyX8_ok : ∀ k, k < 8 → parseFieldDescriptor (TX8 k).2.2.1 = some (tyX8 k) := by decide +kernel
abbrev cX8_init : ByteArray := prog_1_method_1_code
def yX8_init : MethodName := ⟨RX8, "<init>", "()V"⟩
abbrev cX8_question : ByteArray := prog_1_method_2_code
def yX8_question : MethodName := ⟨RX8, "question", "(II)I"⟩
abbrev cX8_code : ByteArray := prog_1_method_3_code
def yX8_code : MethodName := ⟨RX8, "code", "(II)I"⟩
abbrev cX8_map : ByteArray := prog_1_method_4_code
def yX8_map : MethodName := ⟨RX8, "map", "(I)I"⟩
abbrev cX8_row : ByteArray := prog_1_method_5_code
def yX8_row : MethodName := ⟨RX8, "row", "(IJJI)I"⟩
abbrev cX8_howMany : ByteArray := prog_1_method_6_code
def yX8_howMany : MethodName := ⟨RX8, "howMany", "(II)I"⟩
abbrev cX8_sum : ByteArray := prog_1_method_7_code
def yX8_sum : MethodName := ⟨RX8, "sum", "(I)I"⟩
abbrev cX8_of : ByteArray := prog_1_method_8_code
def yX8_of : MethodName := ⟨RX8, "of", "(II)I"⟩
abbrev cX8_codeAt : ByteArray := prog_1_method_9_code
def yX8_codeAt : MethodName := ⟨RX8, "codeAt", "(II)I"⟩
abbrev cX8_isCode : ByteArray := prog_1_method_10_code
def yX8_isCode : MethodName := ⟨RX8, "isCode", "(I)Z"⟩
abbrev cX8_emptyEverywhere : ByteArray := prog_1_method_11_code
def yX8_emptyEverywhere : MethodName := ⟨RX8, "emptyEverywhere", "(I)V"⟩
abbrev cX8_household : ByteArray := prog_1_method_12_code
def yX8_household : MethodName := ⟨RX8, "household", "()I"⟩
abbrev cX8_answer : ByteArray := prog_1_method_13_code
def yX8_answer : MethodName := ⟨RX8, "answer", "(IIIJ)I"⟩
abbrev cX8_missing : ByteArray := prog_1_method_14_code
def yX8_missing : MethodName := ⟨RX8, "missing", "(IIII)I"⟩
abbrev cX8_value : ByteArray := prog_1_method_15_code
def yX8_value : MethodName := ⟨RX8, "value", "(III)J"⟩
abbrev cX8_reason : ByteArray := prog_1_method_16_code
def yX8_reason : MethodName := ⟨RX8, "reason", "(III)I"⟩
abbrev cX8_homeOf : ByteArray := prog_1_method_17_code
def yX8_homeOf : MethodName := ⟨RX8, "homeOf", "(I)LHouseholdVault$Household;"⟩
abbrev cX8_settledSheet : ByteArray := prog_1_method_18_code
def yX8_settledSheet : MethodName := ⟨RX8, "settledSheet", "(III)LHouseholdVault$Sheet;"⟩
abbrev cX8_dropPersons : ByteArray := prog_1_method_19_code
def yX8_dropPersons : MethodName := ⟨RX8, "dropPersons", "(LHouseholdVault$Sheet;II)V"⟩
abbrev cX8_spot : ByteArray := prog_1_method_20_code
def yX8_spot : MethodName := ⟨RX8, "spot", "(II)I"⟩
abbrev cX8_isPlace : ByteArray := prog_1_method_21_code
def yX8_isPlace : MethodName := ⟨RX8, "isPlace", "(LHouseholdVault$Sheet;II)Z"⟩
abbrev cX8_placesOf : ByteArray := prog_1_method_22_code
def yX8_placesOf : MethodName := ⟨RX8, "placesOf", "(LHouseholdVault$Sheet;I)I"⟩
abbrev cX8_personOf : ByteArray := prog_1_method_23_code
def yX8_personOf : MethodName := ⟨RX8, "personOf", "(II)I"⟩
abbrev cX8_ask : ByteArray := prog_1_method_24_code
def yX8_ask : MethodName := ⟨RX8, "ask", "(IIJ)I"⟩
abbrev cX8_logic : ByteArray := prog_1_method_25_code
def yX8_logic : MethodName := ⟨RX8, "logic", "(III)I"⟩
abbrev cX8_some : ByteArray := prog_1_method_26_code
def yX8_some : MethodName := ⟨RX8, "some", "(II)I"⟩
abbrev cX8_holds : ByteArray := prog_1_method_27_code
def yX8_holds : MethodName := ⟨RX8, "holds", "(III)I"⟩
abbrev cX8_filter : ByteArray := prog_1_method_28_code
def yX8_filter : MethodName := ⟨RX8, "filter", "(II)I"⟩
abbrev cX8_against : ByteArray := prog_1_method_29_code
def yX8_against : MethodName := ⟨RX8, "against", "()I"⟩
abbrev cX8_againstAt : ByteArray := prog_1_method_30_code
def yX8_againstAt : MethodName := ⟨RX8, "againstAt", "(II)I"⟩
abbrev cX8_findAgainst : ByteArray := prog_1_method_31_code
def yX8_findAgainst : MethodName := ⟨RX8, "findAgainst", "(I)V"⟩
abbrev cX8_meetAgainst : ByteArray := prog_1_method_32_code
def yX8_meetAgainst : MethodName := ⟨RX8, "meetAgainst", "(II)V"⟩
abbrev cX8_isGiven : ByteArray := prog_1_method_33_code
def yX8_isGiven : MethodName := ⟨RX8, "isGiven", "(LHouseholdVault$Sheet;LHouseholdVault$Question;I)Z"⟩
abbrev cX8_weight : ByteArray := prog_1_method_34_code
def yX8_weight : MethodName := ⟨RX8, "weight", "(III)I"⟩
abbrev cX8_table : ByteArray := prog_1_method_35_code
def yX8_table : MethodName := ⟨RX8, "table", "(II)I"⟩
abbrev cX8_cell : ByteArray := prog_1_method_36_code
def yX8_cell : MethodName := ⟨RX8, "cell", "(III)J"⟩
abbrev cX8_shares : ByteArray := prog_1_method_37_code
def yX8_shares : MethodName := ⟨RX8, "shares", "(I)I"⟩
abbrev cX8_share : ByteArray := prog_1_method_38_code
def yX8_share : MethodName := ⟨RX8, "share", "(II)I"⟩
abbrev cX8_shown : ByteArray := prog_1_method_39_code
def yX8_shown : MethodName := ⟨RX8, "shown", "(I)I"⟩
abbrev cX8_follows : ByteArray := prog_1_method_40_code
def yX8_follows : MethodName := ⟨RX8, "follows", "()I"⟩
abbrev cX8_rank : ByteArray := prog_1_method_41_code
def yX8_rank : MethodName := ⟨RX8, "rank", "(II)I"⟩
abbrev cX8_part : ByteArray := prog_1_method_42_code
def yX8_part : MethodName := ⟨RX8, "part", "(IIII)J"⟩
abbrev cX8_sortRising : ByteArray := prog_1_method_43_code
def yX8_sortRising : MethodName := ⟨RX8, "sortRising", "(II)I"⟩
abbrev cX8_insertRising : ByteArray := prog_1_method_44_code
def yX8_insertRising : MethodName := ⟨RX8, "insertRising", "(III)V"⟩
abbrev cX8_heightOf : ByteArray := prog_1_method_45_code
def yX8_heightOf : MethodName := ⟨RX8, "heightOf", "(II)J"⟩
abbrev cX8_missingAt : ByteArray := prog_1_method_46_code
def yX8_missingAt : MethodName := ⟨RX8, "missingAt", "(II)I"⟩
abbrev cX8_mark : ByteArray := prog_1_method_47_code
def yX8_mark : MethodName := ⟨RX8, "mark", "(IZ)I"⟩
abbrev cX8_doubles : ByteArray := prog_1_method_48_code
def yX8_doubles : MethodName := ⟨RX8, "doubles", "()I"⟩
abbrev cX8_doubleAt : ByteArray := prog_1_method_49_code
def yX8_doubleAt : MethodName := ⟨RX8, "doubleAt", "(II)I"⟩
abbrev cX8_findDoubles : ByteArray := prog_1_method_50_code
def yX8_findDoubles : MethodName := ⟨RX8, "findDoubles", "(I)V"⟩
abbrev cX8_areDoubles : ByteArray := prog_1_method_51_code
def yX8_areDoubles : MethodName := ⟨RX8, "areDoubles", "(LHouseholdVault$Sheet;LHouseholdVault$Sheet;)Z"⟩
abbrev cX8_areLikeIn : ByteArray := prog_1_method_52_code
def yX8_areLikeIn : MethodName := ⟨RX8, "areLikeIn", "(ILHouseholdVault$Sheet;LHouseholdVault$Sheet;)Z"⟩
abbrev cX8_freeze : ByteArray := prog_1_method_53_code
def yX8_freeze : MethodName := ⟨RX8, "freeze", "()I"⟩
abbrev cX8_frozen : ByteArray := prog_1_method_54_code
def yX8_frozen : MethodName := ⟨RX8, "frozen", "(IIII)J"⟩
abbrev cX8_frozenReason : ByteArray := prog_1_method_55_code
def yX8_frozenReason : MethodName := ⟨RX8, "frozenReason", "(IIII)I"⟩
abbrev cX8_changes : ByteArray := prog_1_method_56_code
def yX8_changes : MethodName := ⟨RX8, "changes", "(II)I"⟩
abbrev cX8_changeAt : ByteArray := prog_1_method_57_code
def yX8_changeAt : MethodName := ⟨RX8, "changeAt", "(IIII)I"⟩
abbrev cX8_merge : ByteArray := prog_1_method_58_code
def yX8_merge : MethodName := ⟨RX8, "merge", "(I)I"⟩
abbrev cX8_count : ByteArray := prog_1_method_59_code
def yX8_count : MethodName := ⟨RX8, "count", "(I)I"⟩
abbrev cX8_editionOf : ByteArray := prog_1_method_60_code
def yX8_editionOf : MethodName := ⟨RX8, "editionOf", "(I)LHouseholdVault$Edition;"⟩
abbrev cX8_frozenSheet : ByteArray := prog_1_method_61_code
def yX8_frozenSheet : MethodName := ⟨RX8, "frozenSheet", "(IIII)LHouseholdVault$Sheet;"⟩
abbrev cX8_findChanges : ByteArray := prog_1_method_62_code
def yX8_findChanges : MethodName := ⟨RX8, "findChanges", "(LHouseholdVault$Edition;LHouseholdVault$Edition;I)V"⟩
abbrev cX8_meetChanges : ByteArray := prog_1_method_63_code
def yX8_meetChanges : MethodName := ⟨RX8, "meetChanges", "(LHouseholdVault$Sheet;LHouseholdVault$Sheet;II)V"⟩
abbrev cX8_bringBack : ByteArray := prog_1_method_64_code
def yX8_bringBack : MethodName := ⟨RX8, "bringBack", "(LHouseholdVault$Edition;I)I"⟩
def RX9 : String := "HouseholdVaultModel"
def TX9 : u_T := fun k => match k with
  | 0 => ("HouseholdVaultModel", "questions", "I", false)
  | 1 => ("HouseholdVaultModel", "kind", "[I", true)
  | 2 => ("HouseholdVaultModel", "roster", "[I", true)
  | 3 => ("HouseholdVaultModel", "made", "[I", true)
  | 4 => ("HouseholdVaultModel", "base", "[I", true)
  | 5 => ("HouseholdVaultModel", "by", "[I", true)
  | 6 => ("HouseholdVaultModel", "filter", "[I", true)
  | 7 => ("HouseholdVaultModel", "marked", "[Z", true)
  | 8 => ("HouseholdVaultModel", "codes", "[I", true)
  | 9 => ("HouseholdVaultModel", "codeMany", "[I", true)
  | 10 => ("HouseholdVaultModel", "rowLow", "[J", true)
  | 11 => ("HouseholdVaultModel", "rowHigh", "[J", true)
  | 12 => ("HouseholdVaultModel", "rowCode", "[I", true)
  | 13 => ("HouseholdVaultModel", "rowMany", "[I", true)
  | 14 => ("HouseholdVaultModel", "households", "I", false)
  | 15 => ("HouseholdVaultModel", "value", "[J", true)
  | 16 => ("HouseholdVaultModel", "reason", "[I", true)
  | 17 => ("HouseholdVaultModel", "weight", "[I", true)
  | 18 => ("HouseholdVaultModel", "conditions", "I", false)
  | 19 => ("HouseholdVaultModel", "sort", "[I", true)
  | 20 => ("HouseholdVaultModel", "code", "[I", true)
  | 21 => ("HouseholdVaultModel", "asks", "[I", true)
  | 22 => ("HouseholdVaultModel", "than", "[J", true)
  | 23 => ("HouseholdVaultModel", "partA", "[I", true)
  | 24 => ("HouseholdVaultModel", "partB", "[I", true)
  | 25 => ("HouseholdVaultModel", "reach", "[I", true)
  | 26 => ("HouseholdVaultModel", "size", "[I", true)
  | 27 => ("HouseholdVaultModel", "latest", "[I", true)
  | 28 => ("HouseholdVaultModel", "order", "[I", true)
  | 29 => ("HouseholdVaultModel", "ordered", "I", false)
  | 30 => ("HouseholdVaultModel", "editions", "I", false)
  | 31 => ("HouseholdVaultModel", "editionHouseholds", "[I", true)
  | 32 => ("HouseholdVaultModel", "editionQuestions", "[I", true)
  | 33 => ("HouseholdVaultModel", "editionValue", "[J", true)
  | 34 => ("HouseholdVaultModel", "editionReason", "[I", true)
  | 35 => ("HouseholdVaultModel", "hasTable", "Z", false)
  | 36 => ("HouseholdVaultModel", "isTwo", "Z", false)
  | 37 => ("HouseholdVaultModel", "rows", "I", false)
  | 38 => ("HouseholdVaultModel", "columns", "I", false)
  | 39 => ("HouseholdVaultModel", "counts", "[I", true)
  | 40 => ("HouseholdVaultModel", "weights", "[J", true)
  | 41 => ("HouseholdVaultModel", "shares", "[I", true)
  | 42 => ("HouseholdVaultModel", "held", "[Z", true)
  | 43 => ("HouseholdVaultModel", "nowValue", "[J", true)
  | 44 => ("HouseholdVaultModel", "nowReason", "[I", true)
  | 45 => ("HouseholdVaultModel", "say", "[Z", true)
  | 46 => ("HouseholdVaultModel", "seekH", "I", false)
  | 47 => ("HouseholdVaultModel", "seekQ", "I", false)
  | 48 => ("HouseholdVaultModel", "seekP", "I", false)
  | 49 => ("HouseholdVaultModel", "rests", "[J", true)
  | 50 => ("HouseholdVaultModel", "hangs", "[Z", true)
  | 51 => ("HouseholdVaultModel", "ranks", "[J", true)
  | _ => ("HouseholdVaultModel", "ranked", "[I", true)
def tyX9 : Nat → FieldType := fun k => match k with
  | 0 => .int
  | 1 => .array .int
  | 2 => .array .int
  | 3 => .array .int
  | 4 => .array .int
  | 5 => .array .int
  | 6 => .array .int
  | 7 => .array .boolean
  | 8 => .array .int
  | 9 => .array .int
  | 10 => .array .long
  | 11 => .array .long
  | 12 => .array .int
  | 13 => .array .int
  | 14 => .int
  | 15 => .array .long
  | 16 => .array .int
  | 17 => .array .int
  | 18 => .int
  | 19 => .array .int
  | 20 => .array .int
  | 21 => .array .int
  | 22 => .array .long
  | 23 => .array .int
  | 24 => .array .int
  | 25 => .array .int
  | 26 => .array .int
  | 27 => .array .int
  | 28 => .array .int
  | 29 => .int
  | 30 => .int
  | 31 => .array .int
  | 32 => .array .int
  | 33 => .array .long
  | 34 => .array .int
  | 35 => .boolean
  | 36 => .boolean
  | 37 => .int
  | 38 => .int
  | 39 => .array .int
  | 40 => .array .long
  | 41 => .array .int
  | 42 => .array .boolean
  | 43 => .array .long
  | 44 => .array .int
  | 45 => .array .boolean
  | 46 => .int
  | 47 => .int
  | 48 => .int
  | 49 => .array .long
  | 50 => .array .boolean
  | 51 => .array .long
  | _ => .array .int
abbrev wsX90 : List Cond := u_ws RX9 TX9 53
theorem nmX9 : ∀ a, a < 53 → ∀ b, b < 53 → a ≠ b → (TX9 a).2.1 ≠ (TX9 b).2.1 := by decide +kernel
theorem tyX9_ok : ∀ k, k < 53 → parseFieldDescriptor (TX9 k).2.2.1 = some (tyX9 k) := by decide +kernel
abbrev cX9_init : ByteArray := prog_11_method_1_code
def yX9_init : MethodName := ⟨RX9, "<init>", "()V"⟩
abbrev cX9_in : ByteArray := prog_11_method_2_code
def yX9_in : MethodName := ⟨RX9, "in", "(JJJ)Z"⟩
abbrev cX9_isQuestion : ByteArray := prog_11_method_3_code
def yX9_isQuestion : MethodName := ⟨RX9, "isQuestion", "(I)Z"⟩
abbrev cX9_isHousehold : ByteArray := prog_11_method_4_code
def yX9_isHousehold : MethodName := ⟨RX9, "isHousehold", "(I)Z"⟩
abbrev cX9_isCondition : ByteArray := prog_11_method_5_code
def yX9_isCondition : MethodName := ⟨RX9, "isCondition", "(I)Z"⟩
abbrev cX9_place : ByteArray := prog_11_method_6_code
def yX9_place : MethodName := ⟨RX9, "place", "(III)I"⟩
abbrev cX9_blank : ByteArray := prog_11_method_7_code
def yX9_blank : MethodName := ⟨RX9, "blank", "(II)V"⟩
abbrev cX9_add : ByteArray := prog_11_method_8_code
def yX9_add : MethodName := ⟨RX9, "add", "(III)I"⟩
abbrev cX9_question : ByteArray := prog_11_method_9_code
def yX9_question : MethodName := ⟨RX9, "question", "(II)I"⟩
abbrev cX9_codeNumber : ByteArray := prog_11_method_10_code
def yX9_codeNumber : MethodName := ⟨RX9, "codeNumber", "(IJ)I"⟩
abbrev cX9_code : ByteArray := prog_11_method_11_code
def yX9_code : MethodName := ⟨RX9, "code", "(II)I"⟩
abbrev cX9_map : ByteArray := prog_11_method_12_code
def yX9_map : MethodName := ⟨RX9, "map", "(I)I"⟩
abbrev cX9_row : ByteArray := prog_11_method_13_code
def yX9_row : MethodName := ⟨RX9, "row", "(IJJI)I"⟩
abbrev cX9_howMany : ByteArray := prog_11_method_14_code
def yX9_howMany : MethodName := ⟨RX9, "howMany", "(II)I"⟩
abbrev cX9_sum : ByteArray := prog_11_method_15_code
def yX9_sum : MethodName := ⟨RX9, "sum", "(I)I"⟩
abbrev cX9_of : ByteArray := prog_11_method_16_code
def yX9_of : MethodName := ⟨RX9, "of", "(II)I"⟩
abbrev cX9_codeAt : ByteArray := prog_11_method_17_code
def yX9_codeAt : MethodName := ⟨RX9, "codeAt", "(II)I"⟩
abbrev cX9_household : ByteArray := prog_11_method_18_code
def yX9_household : MethodName := ⟨RX9, "household", "()I"⟩
abbrev cX9_persons : ByteArray := prog_11_method_19_code
def yX9_persons : MethodName := ⟨RX9, "persons", "(II)I"⟩
abbrev cX9_isPlace : ByteArray := prog_11_method_20_code
def yX9_isPlace : MethodName := ⟨RX9, "isPlace", "(III)Z"⟩
abbrev cX9_isValue : ByteArray := prog_11_method_21_code
def yX9_isValue : MethodName := ⟨RX9, "isValue", "(IJ)Z"⟩
abbrev cX9_people : ByteArray := prog_11_method_22_code
def yX9_people : MethodName := ⟨RX9, "people", "(III)V"⟩
abbrev cX9_answer : ByteArray := prog_11_method_23_code
def yX9_answer : MethodName := ⟨RX9, "answer", "(IIIJ)I"⟩
abbrev cX9_missing : ByteArray := prog_11_method_24_code
def yX9_missing : MethodName := ⟨RX9, "missing", "(IIII)I"⟩
abbrev cX9_told : ByteArray := prog_11_method_25_code
def yX9_told : MethodName := ⟨RX9, "told", "(IIJI)V"⟩
abbrev cX9_mapAt : ByteArray := prog_11_method_26_code
def yX9_mapAt : MethodName := ⟨RX9, "mapAt", "(II)V"⟩
abbrev cX9_makeAt : ByteArray := prog_11_method_27_code
def yX9_makeAt : MethodName := ⟨RX9, "makeAt", "(II)V"⟩
abbrev cX9_isAsked : ByteArray := prog_11_method_28_code
def yX9_isAsked : MethodName := ⟨RX9, "isAsked", "(II)Z"⟩
abbrev cX9_isSaid : ByteArray := prog_11_method_29_code
def yX9_isSaid : MethodName := ⟨RX9, "isSaid", "(II)Z"⟩
abbrev cX9_sayAt : ByteArray := prog_11_method_30_code
def yX9_sayAt : MethodName := ⟨RX9, "sayAt", "(II)V"⟩
abbrev cX9_workOut : ByteArray := prog_11_method_31_code
def yX9_workOut : MethodName := ⟨RX9, "workOut", "(I)V"⟩
abbrev cX9_value : ByteArray := prog_11_method_32_code
def yX9_value : MethodName := ⟨RX9, "value", "(III)J"⟩
abbrev cX9_reason : ByteArray := prog_11_method_33_code
def yX9_reason : MethodName := ⟨RX9, "reason", "(III)I"⟩
abbrev cX9_condition : ByteArray := prog_11_method_34_code
def yX9_condition : MethodName := ⟨RX9, "condition", "(IIII)I"⟩
abbrev cX9_ask : ByteArray := prog_11_method_35_code
def yX9_ask : MethodName := ⟨RX9, "ask", "(IIJ)I"⟩
abbrev cX9_logic : ByteArray := prog_11_method_36_code
def yX9_logic : MethodName := ⟨RX9, "logic", "(III)I"⟩
abbrev cX9_some : ByteArray := prog_11_method_37_code
def yX9_some : MethodName := ⟨RX9, "some", "(II)I"⟩
abbrev cX9_holds : ByteArray := prog_11_method_38_code
def yX9_holds : MethodName := ⟨RX9, "holds", "(III)I"⟩
abbrev cX9_filter : ByteArray := prog_11_method_39_code
def yX9_filter : MethodName := ⟨RX9, "filter", "(II)I"⟩
abbrev cX9_isAgainst : ByteArray := prog_11_method_40_code
def yX9_isAgainst : MethodName := ⟨RX9, "isAgainst", "(II)Z"⟩
abbrev cX9_countAgainst : ByteArray := prog_11_method_41_code
def yX9_countAgainst : MethodName := ⟨RX9, "countAgainst", "(I)I"⟩
abbrev cX9_against : ByteArray := prog_11_method_42_code
def yX9_against : MethodName := ⟨RX9, "against", "()I"⟩
abbrev cX9_sought : ByteArray := prog_11_method_43_code
def yX9_sought : MethodName := ⟨RX9, "sought", "(I)I"⟩
abbrev cX9_againstAt : ByteArray := prog_11_method_44_code
def yX9_againstAt : MethodName := ⟨RX9, "againstAt", "(II)I"⟩
abbrev cX9_weight : ByteArray := prog_11_method_45_code
def yX9_weight : MethodName := ⟨RX9, "weight", "(III)I"⟩
abbrev cX9_line : ByteArray := prog_11_method_46_code
def yX9_line : MethodName := ⟨RX9, "line", "(I)I"⟩
abbrev cX9_isCodeAtTop : ByteArray := prog_11_method_47_code
def yX9_isCodeAtTop : MethodName := ⟨RX9, "isCodeAtTop", "(I)Z"⟩
abbrev cX9_table : ByteArray := prog_11_method_48_code
def yX9_table : MethodName := ⟨RX9, "table", "(II)I"⟩
abbrev cX9_isCell : ByteArray := prog_11_method_49_code
def yX9_isCell : MethodName := ⟨RX9, "isCell", "(II)Z"⟩
abbrev cX9_cell : ByteArray := prog_11_method_50_code
def yX9_cell : MethodName := ⟨RX9, "cell", "(III)J"⟩
abbrev cX9_shares : ByteArray := prog_11_method_51_code
def yX9_shares : MethodName := ⟨RX9, "shares", "(I)I"⟩
abbrev cX9_share : ByteArray := prog_11_method_52_code
def yX9_share : MethodName := ⟨RX9, "share", "(II)I"⟩
abbrev cX9_hangTogether : ByteArray := prog_11_method_53_code
def yX9_hangTogether : MethodName := ⟨RX9, "hangTogether", "(III)Z"⟩
abbrev cX9_isFollowing : ByteArray := prog_11_method_54_code
def yX9_isFollowing : MethodName := ⟨RX9, "isFollowing", "(I)Z"⟩
abbrev cX9_firstFollowing : ByteArray := prog_11_method_55_code
def yX9_firstFollowing : MethodName := ⟨RX9, "firstFollowing", "()I"⟩
abbrev cX9_leastOf : ByteArray := prog_11_method_56_code
def yX9_leastOf : MethodName := ⟨RX9, "leastOf", "(II)I"⟩
abbrev cX9_shown : ByteArray := prog_11_method_57_code
def yX9_shown : MethodName := ⟨RX9, "shown", "(I)I"⟩
abbrev cX9_follows : ByteArray := prog_11_method_58_code
def yX9_follows : MethodName := ⟨RX9, "follows", "()I"⟩
abbrev cX9_rank : ByteArray := prog_11_method_59_code
def yX9_rank : MethodName := ⟨RX9, "rank", "(II)I"⟩
abbrev cX9_part : ByteArray := prog_11_method_60_code
def yX9_part : MethodName := ⟨RX9, "part", "(IIII)J"⟩
abbrev cX9_mark : ByteArray := prog_11_method_61_code
def yX9_mark : MethodName := ⟨RX9, "mark", "(IZ)I"⟩
abbrev cX9_areLike : ByteArray := prog_11_method_62_code
def yX9_areLike : MethodName := ⟨RX9, "areLike", "(IIII)Z"⟩
abbrev cX9_areDouble : ByteArray := prog_11_method_63_code
def yX9_areDouble : MethodName := ⟨RX9, "areDouble", "(II)Z"⟩
abbrev cX9_countDoubles : ByteArray := prog_11_method_64_code
def yX9_countDoubles : MethodName := ⟨RX9, "countDoubles", "(I)I"⟩
abbrev cX9_doubles : ByteArray := prog_11_method_65_code
def yX9_doubles : MethodName := ⟨RX9, "doubles", "()I"⟩
abbrev cX9_doubleAt : ByteArray := prog_11_method_66_code
def yX9_doubleAt : MethodName := ⟨RX9, "doubleAt", "(II)I"⟩
abbrev cX9_freeze : ByteArray := prog_11_method_67_code
def yX9_freeze : MethodName := ⟨RX9, "freeze", "()I"⟩
abbrev cX9_isEdition : ByteArray := prog_11_method_68_code
def yX9_isEdition : MethodName := ⟨RX9, "isEdition", "(I)Z"⟩
abbrev cX9_personsThen : ByteArray := prog_11_method_69_code
def yX9_personsThen : MethodName := ⟨RX9, "personsThen", "(III)I"⟩
abbrev cX9_isFrozen : ByteArray := prog_11_method_70_code
def yX9_isFrozen : MethodName := ⟨RX9, "isFrozen", "(IIII)Z"⟩
abbrev cX9_frozen : ByteArray := prog_11_method_71_code
def yX9_frozen : MethodName := ⟨RX9, "frozen", "(IIII)J"⟩
abbrev cX9_frozenReason : ByteArray := prog_11_method_72_code
def yX9_frozenReason : MethodName := ⟨RX9, "frozenReason", "(IIII)I"⟩
abbrev cX9_isChanged : ByteArray := prog_11_method_73_code
def yX9_isChanged : MethodName := ⟨RX9, "isChanged", "(IIIII)Z"⟩
abbrev cX9_countChanges : ByteArray := prog_11_method_74_code
def yX9_countChanges : MethodName := ⟨RX9, "countChanges", "(III)I"⟩
abbrev cX9_changes : ByteArray := prog_11_method_75_code
def yX9_changes : MethodName := ⟨RX9, "changes", "(II)I"⟩
abbrev cX9_changeAt : ByteArray := prog_11_method_76_code
def yX9_changeAt : MethodName := ⟨RX9, "changeAt", "(IIII)I"⟩
abbrev cX9_merge : ByteArray := prog_11_method_77_code
def yX9_merge : MethodName := ⟨RX9, "merge", "(I)I"⟩
abbrev cX9_count : ByteArray := prog_11_method_78_code
def yX9_count : MethodName := ⟨RX9, "count", "(I)I"⟩
def RJx8e188 : String := "java/lang/Cloneable"
def TJx8e188 : u_T := fun k => match k with
  | _ => ("", "", "", false)
def tyJx8e188 : Nat → FieldType := fun k => match k with
  | _ => .int
abbrev wsJx8e1880 : List Cond := u_ws RJx8e188 TJx8e188 0
theorem nmJx8e188 : ∀ a, a < 0 → ∀ b, b < 0 → a ≠ b → (TJx8e188 a).2.1 ≠ (TJx8e188 b).2.1 := by decide +kernel
theorem tyJx8e188_ok : ∀ k, k < 0 → parseFieldDescriptor (TJx8e188 k).2.2.1 = some (tyJx8e188 k) := by decide +kernel
def RJ6 : String := "java/lang/Integer"
def TJ6 : u_T := fun k => match k with
  | _ => ("", "", "", false)
def tyJ6 : Nat → FieldType := fun k => match k with
  | _ => .int
abbrev wsJ60 : List Cond := u_ws RJ6 TJ6 0
theorem nmJ6 : ∀ a, a < 0 → ∀ b, b < 0 → a ≠ b → (TJ6 a).2.1 ≠ (TJ6 b).2.1 := by decide +kernel
theorem tyJ6_ok : ∀ k, k < 0 → parseFieldDescriptor (TJ6 k).2.2.1 = some (tyJ6 k) := by decide +kernel
abbrev cJ6_bitCount_0f7a4 : ByteArray := prog_13_method_49_code
def yJ6_bitCount_0f7a4 : MethodName := ⟨RJ6, "bitCount", "(I)I"⟩
def RJ9 : String := "java/lang/Math"
def TJ9 : u_T := fun k => match k with
  | _ => ("", "", "", false)
def tyJ9 : Nat → FieldType := fun k => match k with
  | _ => .int
abbrev wsJ90 : List Cond := u_ws RJ9 TJ9 0
theorem nmJ9 : ∀ a, a < 0 → ∀ b, b < 0 → a ≠ b → (TJ9 a).2.1 ≠ (TJ9 b).2.1 := by decide +kernel
theorem tyJ9_ok : ∀ k, k < 0 → parseFieldDescriptor (TJ9 k).2.2.1 = some (tyJ9 k) := by decide +kernel
abbrev cJ9_max_7cf53 : ByteArray := prog_14_method_65_code
def yJ9_max_7cf53 : MethodName := ⟨RJ9, "max", "(II)I"⟩
abbrev cJ9_min_7cf53 : ByteArray := prog_14_method_69_code
def yJ9_min_7cf53 : MethodName := ⟨RJ9, "min", "(II)I"⟩
def RJ10 : String := "java/lang/System"
def TJ10 : u_T := fun k => match k with
  | _ => ("", "", "", false)
def tyJ10 : Nat → FieldType := fun k => match k with
  | _ => .int
abbrev wsJ100 : List Cond := u_ws RJ10 TJ10 0
theorem nmJ10 : ∀ a, a < 0 → ∀ b, b < 0 → a ≠ b → (TJ10 a).2.1 ≠ (TJ10 b).2.1 := by decide +kernel
theorem tyJ10_ok : ∀ k, k < 0 → parseFieldDescriptor (TJ10 k).2.2.1 = some (tyJ10 k) := by decide +kernel
def RJ7 : String := "java/util/Arrays"
def TJ7 : u_T := fun k => match k with
  | _ => ("", "", "", false)
def tyJ7 : Nat → FieldType := fun k => match k with
  | _ => .int
abbrev wsJ70 : List Cond := u_ws RJ7 TJ7 0
theorem nmJ7 : ∀ a, a < 0 → ∀ b, b < 0 → a ≠ b → (TJ7 a).2.1 ≠ (TJ7 b).2.1 := by decide +kernel
theorem tyJ7_ok : ∀ k, k < 0 → parseFieldDescriptor (TJ7 k).2.2.1 = some (tyJ7 k) := by decide +kernel
abbrev cJ7_fill_d0a16 : ByteArray := prog_16_method_101_code
def yJ7_fill_d0a16 : MethodName := ⟨RJ7, "fill", "([JJ)V"⟩
abbrev cJ7_fill_53178 : ByteArray := prog_16_method_103_code
def yJ7_fill_53178 : MethodName := ⟨RJ7, "fill", "([II)V"⟩
abbrev cJ7_copyOf_59c91 : ByteArray := prog_16_method_123_code
def yJ7_copyOf_59c91 : MethodName := ⟨RJ7, "copyOf", "([II)[I"⟩
abbrev cJ7_copyOf_c38d5 : ByteArray := prog_16_method_124_code
def yJ7_copyOf_c38d5 : MethodName := ⟨RJ7, "copyOf", "([JI)[J"⟩
def RL : String := "HouseholdVaultLaw"
abbrev cL_law : ByteArray := code
def yL_law : MethodName := ⟨RL, "law", "([I)Z"⟩
abbrev vwCl : List vw_C := [(RX0, TX0, 7), (RX1, TX1, 2), (RX2, TX2, 5), (RX3, TX3, 6), (RX4, TX4, 4), (RX5, TX5, 13), (RX6, TX6, 2), (RX7, TX7, 9), (RX8, TX8, 8), (RX9, TX9, 53)]
