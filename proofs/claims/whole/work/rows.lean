section
-- ===== PART A: goes FIRST, ahead of the names: the tables' words, and 'selects' of the private methods out of them =====
/-- a private method of a class that the tables say can be made, by its rows of tables_1 -/
def lw_okq (q : MethodName × Nat) : Prop := (q.1.cls ≠ "java/lang/invoke/MethodHandle" ∧ q.1.cls ≠ "java/lang/invoke/VarHandle") ∧ Cond.instantiable q.1.cls q.2 ∈ tables_1 ∧ Cond.privateMethod q.1 ∈ tables_1 ∧ Cond.instanceMethod q.1 ∈ tables_1
theorem lw_p0 : lw_okq (⟨"java/util/ArrayList", "add", "(Ljava/lang/Object;[Ljava/lang/Object;I)V"⟩, 3) := ⟨⟨by decide +kernel, by decide +kernel⟩, List.mem_of_getElem? (i := 38) (by decide +kernel), List.mem_of_getElem? (i := 132) (by decide +kernel), List.mem_of_getElem? (i := 133) (by decide +kernel)⟩
theorem lw_p1 : lw_okq (⟨"java/util/ArrayList", "grow", "()[Ljava/lang/Object;"⟩, 3) := ⟨⟨by decide +kernel, by decide +kernel⟩, List.mem_of_getElem? (i := 38) (by decide +kernel), List.mem_of_getElem? (i := 136) (by decide +kernel), List.mem_of_getElem? (i := 137) (by decide +kernel)⟩
theorem lw_p2 : lw_okq (⟨"java/util/ArrayList", "grow", "(I)[Ljava/lang/Object;"⟩, 3) := ⟨⟨by decide +kernel, by decide +kernel⟩, List.mem_of_getElem? (i := 38) (by decide +kernel), List.mem_of_getElem? (i := 140) (by decide +kernel), List.mem_of_getElem? (i := 141) (by decide +kernel)⟩
theorem lw_p3 : lw_okq (⟨"Springleaf", "openTo", "(I)V"⟩, 5) := ⟨⟨by decide +kernel, by decide +kernel⟩, List.mem_of_getElem? (i := 30) (by decide +kernel), List.mem_of_getElem? (i := 207) (by decide +kernel), List.mem_of_getElem? (i := 208) (by decide +kernel)⟩
theorem lw_p4 : lw_okq (⟨"Springleaf", "firstThatMeetsAnother", "()I"⟩, 5) := ⟨⟨by decide +kernel, by decide +kernel⟩, List.mem_of_getElem? (i := 30) (by decide +kernel), List.mem_of_getElem? (i := 242) (by decide +kernel), List.mem_of_getElem? (i := 243) (by decide +kernel)⟩
theorem lw_p5 : lw_okq (⟨"Springleaf", "layAllParts", "()V"⟩, 5) := ⟨⟨by decide +kernel, by decide +kernel⟩, List.mem_of_getElem? (i := 30) (by decide +kernel), List.mem_of_getElem? (i := 280) (by decide +kernel), List.mem_of_getElem? (i := 281) (by decide +kernel)⟩
theorem lw_p6 : lw_okq (⟨"Springleaf", "lay", "(LSpringleaf$Part;)V"⟩, 5) := ⟨⟨by decide +kernel, by decide +kernel⟩, List.mem_of_getElem? (i := 30) (by decide +kernel), List.mem_of_getElem? (i := 284) (by decide +kernel), List.mem_of_getElem? (i := 285) (by decide +kernel)⟩
theorem lw_p7 : lw_okq (⟨"Springleaf", "firstOfShelfFor", "(LSpringleaf$Part;)LSpringleaf$Part;"⟩, 5) := ⟨⟨by decide +kernel, by decide +kernel⟩, List.mem_of_getElem? (i := 30) (by decide +kernel), List.mem_of_getElem? (i := 288) (by decide +kernel), List.mem_of_getElem? (i := 289) (by decide +kernel)⟩
theorem lw_p8 : lw_okq (⟨"Springleaf", "beginShelf", "(LSpringleaf$Part;)V"⟩, 5) := ⟨⟨by decide +kernel, by decide +kernel⟩, List.mem_of_getElem? (i := 30) (by decide +kernel), List.mem_of_getElem? (i := 300) (by decide +kernel), List.mem_of_getElem? (i := 301) (by decide +kernel)⟩
theorem lw_p9 : lw_okq (⟨"Springleaf", "sheetForShelf", "(I)I"⟩, 5) := ⟨⟨by decide +kernel, by decide +kernel⟩, List.mem_of_getElem? (i := 30) (by decide +kernel), List.mem_of_getElem? (i := 304) (by decide +kernel), List.mem_of_getElem? (i := 305) (by decide +kernel)⟩
theorem lw_p10 : lw_okq (⟨"Springleaf", "filledHeight", "(I)I"⟩, 5) := ⟨⟨by decide +kernel, by decide +kernel⟩, List.mem_of_getElem? (i := 30) (by decide +kernel), List.mem_of_getElem? (i := 308) (by decide +kernel), List.mem_of_getElem? (i := 309) (by decide +kernel)⟩
theorem lw_p11 : lw_okq (⟨"Springleaf", "requireFold", "(I)V"⟩, 5) := ⟨⟨by decide +kernel, by decide +kernel⟩, List.mem_of_getElem? (i := 30) (by decide +kernel), List.mem_of_getElem? (i := 331) (by decide +kernel), List.mem_of_getElem? (i := 332) (by decide +kernel)⟩
theorem lw_p12 : lw_okq (⟨"java/lang/Throwable", "fillInStackTrace", "(I)Ljava/lang/Throwable;"⟩, 6) := ⟨⟨by decide +kernel, by decide +kernel⟩, List.mem_of_getElem? (i := 378) (by decide +kernel), List.mem_of_getElem? (i := 376) (by decide +kernel), List.mem_of_getElem? (i := 377) (by decide +kernel)⟩
theorem lw_p13 : lw_okq (⟨"Springleaf", "openByDegreesTo", "(I)V"⟩, 5) := ⟨⟨by decide +kernel, by decide +kernel⟩, List.mem_of_getElem? (i := 30) (by decide +kernel), List.mem_of_getElem? (i := 516) (by decide +kernel), List.mem_of_getElem? (i := 517) (by decide +kernel)⟩
theorem lw_p14 : lw_okq (⟨"Springleaf", "requirePart", "(I)V"⟩, 5) := ⟨⟨by decide +kernel, by decide +kernel⟩, List.mem_of_getElem? (i := 30) (by decide +kernel), List.mem_of_getElem? (i := 531) (by decide +kernel), List.mem_of_getElem? (i := 532) (by decide +kernel)⟩
theorem lw_p15 : lw_okq (⟨"Springleaf", "isStartCovered", "(LSpringleaf$Part;)Z"⟩, 5) := ⟨⟨by decide +kernel, by decide +kernel⟩, List.mem_of_getElem? (i := 30) (by decide +kernel), List.mem_of_getElem? (i := 569) (by decide +kernel), List.mem_of_getElem? (i := 570) (by decide +kernel)⟩
def lw_privs_1 : List (MethodName × Nat) := [(⟨"java/util/ArrayList", "add", "(Ljava/lang/Object;[Ljava/lang/Object;I)V"⟩, 3), (⟨"java/util/ArrayList", "grow", "()[Ljava/lang/Object;"⟩, 3), (⟨"java/util/ArrayList", "grow", "(I)[Ljava/lang/Object;"⟩, 3), (⟨"Springleaf", "openTo", "(I)V"⟩, 5), (⟨"Springleaf", "firstThatMeetsAnother", "()I"⟩, 5), (⟨"Springleaf", "layAllParts", "()V"⟩, 5), (⟨"Springleaf", "lay", "(LSpringleaf$Part;)V"⟩, 5), (⟨"Springleaf", "firstOfShelfFor", "(LSpringleaf$Part;)LSpringleaf$Part;"⟩, 5), (⟨"Springleaf", "beginShelf", "(LSpringleaf$Part;)V"⟩, 5), (⟨"Springleaf", "sheetForShelf", "(I)I"⟩, 5), (⟨"Springleaf", "filledHeight", "(I)I"⟩, 5), (⟨"Springleaf", "requireFold", "(I)V"⟩, 5), (⟨"java/lang/Throwable", "fillInStackTrace", "(I)Ljava/lang/Throwable;"⟩, 6), (⟨"Springleaf", "openByDegreesTo", "(I)V"⟩, 5), (⟨"Springleaf", "requirePart", "(I)V"⟩, 5), (⟨"Springleaf", "isStartCovered", "(LSpringleaf$Part;)Z"⟩, 5)]
theorem lw_r1 : ∀ q ∈ lw_privs_1, lw_okq q := List.forall_mem_cons.mpr ⟨lw_p0, List.forall_mem_cons.mpr ⟨lw_p1, List.forall_mem_cons.mpr ⟨lw_p2, List.forall_mem_cons.mpr ⟨lw_p3, List.forall_mem_cons.mpr ⟨lw_p4, List.forall_mem_cons.mpr ⟨lw_p5, List.forall_mem_cons.mpr ⟨lw_p6, List.forall_mem_cons.mpr ⟨lw_p7, List.forall_mem_cons.mpr ⟨lw_p8, List.forall_mem_cons.mpr ⟨lw_p9, List.forall_mem_cons.mpr ⟨lw_p10, List.forall_mem_cons.mpr ⟨lw_p11, List.forall_mem_cons.mpr ⟨lw_p12, List.forall_mem_cons.mpr ⟨lw_p13, List.forall_mem_cons.mpr ⟨lw_p14, List.forall_mem_cons.mpr ⟨lw_p15, fun _ h => absurd h List.not_mem_nil⟩⟩⟩⟩⟩⟩⟩⟩⟩⟩⟩⟩⟩⟩⟩⟩
theorem lw_p16 : lw_okq (⟨"Springleaf", "hasHold", "(LSpringleaf$Part;)Z"⟩, 5) := ⟨⟨by decide +kernel, by decide +kernel⟩, List.mem_of_getElem? (i := 30) (by decide +kernel), List.mem_of_getElem? (i := 577) (by decide +kernel), List.mem_of_getElem? (i := 578) (by decide +kernel)⟩
theorem lw_p17 : lw_okq (⟨"Springleaf", "partGluedAt", "(I)I"⟩, 5) := ⟨⟨by decide +kernel, by decide +kernel⟩, List.mem_of_getElem? (i := 30) (by decide +kernel), List.mem_of_getElem? (i := 590) (by decide +kernel), List.mem_of_getElem? (i := 591) (by decide +kernel)⟩
theorem lw_p18 : lw_okq (⟨"Springleaf", "unglueFrom", "(I)I"⟩, 5) := ⟨⟨by decide +kernel, by decide +kernel⟩, List.mem_of_getElem? (i := 30) (by decide +kernel), List.mem_of_getElem? (i := 594) (by decide +kernel), List.mem_of_getElem? (i := 595) (by decide +kernel)⟩
theorem lw_p19 : lw_okq (⟨"Springleaf", "tellAll", "(LSpringleaf$Fold;)V"⟩, 5) := ⟨⟨by decide +kernel, by decide +kernel⟩, List.mem_of_getElem? (i := 30) (by decide +kernel), List.mem_of_getElem? (i := 621) (by decide +kernel), List.mem_of_getElem? (i := 622) (by decide +kernel)⟩
theorem lw_p20 : lw_okq (⟨"SpringleafModel", "in", "(III)Z"⟩, 25) := ⟨⟨by decide +kernel, by decide +kernel⟩, List.mem_of_getElem? (i := 924) (by decide +kernel), List.mem_of_getElem? (i := 1015) (by decide +kernel), List.mem_of_getElem? (i := 1016) (by decide +kernel)⟩
theorem lw_p21 : lw_okq (⟨"SpringleafModel", "isFold", "(I)Z"⟩, 25) := ⟨⟨by decide +kernel, by decide +kernel⟩, List.mem_of_getElem? (i := 924) (by decide +kernel), List.mem_of_getElem? (i := 1019) (by decide +kernel), List.mem_of_getElem? (i := 1020) (by decide +kernel)⟩
theorem lw_p22 : lw_okq (⟨"SpringleafModel", "bound", "()Z"⟩, 25) := ⟨⟨by decide +kernel, by decide +kernel⟩, List.mem_of_getElem? (i := 924) (by decide +kernel), List.mem_of_getElem? (i := 1023) (by decide +kernel), List.mem_of_getElem? (i := 1024) (by decide +kernel)⟩
theorem lw_p23 : lw_okq (⟨"SpringleafModel", "tests", "()I"⟩, 25) := ⟨⟨by decide +kernel, by decide +kernel⟩, List.mem_of_getElem? (i := 924) (by decide +kernel), List.mem_of_getElem? (i := 1027) (by decide +kernel), List.mem_of_getElem? (i := 1028) (by decide +kernel)⟩
theorem lw_p24 : lw_okq (⟨"SpringleafModel", "meets", "(III)Z"⟩, 25) := ⟨⟨by decide +kernel, by decide +kernel⟩, List.mem_of_getElem? (i := 924) (by decide +kernel), List.mem_of_getElem? (i := 1031) (by decide +kernel), List.mem_of_getElem? (i := 1032) (by decide +kernel)⟩
theorem lw_p25 : lw_okq (⟨"SpringleafModel", "rises", "(II)I"⟩, 25) := ⟨⟨by decide +kernel, by decide +kernel⟩, List.mem_of_getElem? (i := 924) (by decide +kernel), List.mem_of_getElem? (i := 1035) (by decide +kernel), List.mem_of_getElem? (i := 1036) (by decide +kernel)⟩
theorem lw_p26 : lw_okq (⟨"SpringleafModel", "angleOf", "(II)I"⟩, 25) := ⟨⟨by decide +kernel, by decide +kernel⟩, List.mem_of_getElem? (i := 924) (by decide +kernel), List.mem_of_getElem? (i := 1039) (by decide +kernel), List.mem_of_getElem? (i := 1040) (by decide +kernel)⟩
theorem lw_p27 : lw_okq (⟨"SpringleafModel", "down", "(II)I"⟩, 25) := ⟨⟨by decide +kernel, by decide +kernel⟩, List.mem_of_getElem? (i := 924) (by decide +kernel), List.mem_of_getElem? (i := 1043) (by decide +kernel), List.mem_of_getElem? (i := 1044) (by decide +kernel)⟩
theorem lw_p28 : lw_okq (⟨"SpringleafModel", "share", "(II)Z"⟩, 25) := ⟨⟨by decide +kernel, by decide +kernel⟩, List.mem_of_getElem? (i := 924) (by decide +kernel), List.mem_of_getElem? (i := 1047) (by decide +kernel), List.mem_of_getElem? (i := 1048) (by decide +kernel)⟩
theorem lw_p29 : lw_okq (⟨"SpringleafModel", "low", "(II)I"⟩, 25) := ⟨⟨by decide +kernel, by decide +kernel⟩, List.mem_of_getElem? (i := 924) (by decide +kernel), List.mem_of_getElem? (i := 1051) (by decide +kernel), List.mem_of_getElem? (i := 1052) (by decide +kernel)⟩
theorem lw_p30 : lw_okq (⟨"SpringleafModel", "reach", "(II)I"⟩, 25) := ⟨⟨by decide +kernel, by decide +kernel⟩, List.mem_of_getElem? (i := 924) (by decide +kernel), List.mem_of_getElem? (i := 1055) (by decide +kernel), List.mem_of_getElem? (i := 1056) (by decide +kernel)⟩
theorem lw_p31 : lw_okq (⟨"SpringleafModel", "high", "(II)I"⟩, 25) := ⟨⟨by decide +kernel, by decide +kernel⟩, List.mem_of_getElem? (i := 924) (by decide +kernel), List.mem_of_getElem? (i := 1059) (by decide +kernel), List.mem_of_getElem? (i := 1060) (by decide +kernel)⟩
def lw_privs_2 : List (MethodName × Nat) := [(⟨"Springleaf", "hasHold", "(LSpringleaf$Part;)Z"⟩, 5), (⟨"Springleaf", "partGluedAt", "(I)I"⟩, 5), (⟨"Springleaf", "unglueFrom", "(I)I"⟩, 5), (⟨"Springleaf", "tellAll", "(LSpringleaf$Fold;)V"⟩, 5), (⟨"SpringleafModel", "in", "(III)Z"⟩, 25), (⟨"SpringleafModel", "isFold", "(I)Z"⟩, 25), (⟨"SpringleafModel", "bound", "()Z"⟩, 25), (⟨"SpringleafModel", "tests", "()I"⟩, 25), (⟨"SpringleafModel", "meets", "(III)Z"⟩, 25), (⟨"SpringleafModel", "rises", "(II)I"⟩, 25), (⟨"SpringleafModel", "angleOf", "(II)I"⟩, 25), (⟨"SpringleafModel", "down", "(II)I"⟩, 25), (⟨"SpringleafModel", "share", "(II)Z"⟩, 25), (⟨"SpringleafModel", "low", "(II)I"⟩, 25), (⟨"SpringleafModel", "reach", "(II)I"⟩, 25), (⟨"SpringleafModel", "high", "(II)I"⟩, 25)]
theorem lw_r2 : ∀ q ∈ lw_privs_2, lw_okq q := List.forall_mem_cons.mpr ⟨lw_p16, List.forall_mem_cons.mpr ⟨lw_p17, List.forall_mem_cons.mpr ⟨lw_p18, List.forall_mem_cons.mpr ⟨lw_p19, List.forall_mem_cons.mpr ⟨lw_p20, List.forall_mem_cons.mpr ⟨lw_p21, List.forall_mem_cons.mpr ⟨lw_p22, List.forall_mem_cons.mpr ⟨lw_p23, List.forall_mem_cons.mpr ⟨lw_p24, List.forall_mem_cons.mpr ⟨lw_p25, List.forall_mem_cons.mpr ⟨lw_p26, List.forall_mem_cons.mpr ⟨lw_p27, List.forall_mem_cons.mpr ⟨lw_p28, List.forall_mem_cons.mpr ⟨lw_p29, List.forall_mem_cons.mpr ⟨lw_p30, List.forall_mem_cons.mpr ⟨lw_p31, fun _ h => absurd h List.not_mem_nil⟩⟩⟩⟩⟩⟩⟩⟩⟩⟩⟩⟩⟩⟩⟩⟩
theorem lw_p32 : lw_okq (⟨"SpringleafModel", "holds", "(I)Z"⟩, 25) := ⟨⟨by decide +kernel, by decide +kernel⟩, List.mem_of_getElem? (i := 924) (by decide +kernel), List.mem_of_getElem? (i := 1063) (by decide +kernel), List.mem_of_getElem? (i := 1064) (by decide +kernel)⟩
theorem lw_p33 : lw_okq (⟨"SpringleafModel", "isPart", "(I)Z"⟩, 25) := ⟨⟨by decide +kernel, by decide +kernel⟩, List.mem_of_getElem? (i := 924) (by decide +kernel), List.mem_of_getElem? (i := 1083) (by decide +kernel), List.mem_of_getElem? (i := 1084) (by decide +kernel)⟩
theorem lw_p34 : lw_okq (⟨"SpringleafModel", "lays", "()V"⟩, 25) := ⟨⟨by decide +kernel, by decide +kernel⟩, List.mem_of_getElem? (i := 924) (by decide +kernel), List.mem_of_getElem? (i := 1099) (by decide +kernel), List.mem_of_getElem? (i := 1100) (by decide +kernel)⟩
theorem lw_p35 : lw_okq (⟨"SpringleafModel", "shelfFor", "(I)I"⟩, 25) := ⟨⟨by decide +kernel, by decide +kernel⟩, List.mem_of_getElem? (i := 924) (by decide +kernel), List.mem_of_getElem? (i := 1103) (by decide +kernel), List.mem_of_getElem? (i := 1104) (by decide +kernel)⟩
theorem lw_p36 : lw_okq (⟨"SpringleafModel", "tall", "(I)I"⟩, 25) := ⟨⟨by decide +kernel, by decide +kernel⟩, List.mem_of_getElem? (i := 924) (by decide +kernel), List.mem_of_getElem? (i := 1107) (by decide +kernel), List.mem_of_getElem? (i := 1108) (by decide +kernel)⟩
theorem lw_p37 : lw_okq (⟨"SpringleafModel", "wide", "(I)I"⟩, 25) := ⟨⟨by decide +kernel, by decide +kernel⟩, List.mem_of_getElem? (i := 924) (by decide +kernel), List.mem_of_getElem? (i := 1111) (by decide +kernel), List.mem_of_getElem? (i := 1112) (by decide +kernel)⟩
theorem lw_p38 : lw_okq (⟨"SpringleafModel", "newShelf", "(I)I"⟩, 25) := ⟨⟨by decide +kernel, by decide +kernel⟩, List.mem_of_getElem? (i := 924) (by decide +kernel), List.mem_of_getElem? (i := 1115) (by decide +kernel), List.mem_of_getElem? (i := 1116) (by decide +kernel)⟩
theorem lw_p39 : lw_okq (⟨"SpringleafModel", "canGlue", "(I)Z"⟩, 25) := ⟨⟨by decide +kernel, by decide +kernel⟩, List.mem_of_getElem? (i := 924) (by decide +kernel), List.mem_of_getElem? (i := 1127) (by decide +kernel), List.mem_of_getElem? (i := 1128) (by decide +kernel)⟩
theorem lw_p40 : lw_okq (⟨"SpringleafModel", "stepOf", "(I)I"⟩, 25) := ⟨⟨by decide +kernel, by decide +kernel⟩, List.mem_of_getElem? (i := 924) (by decide +kernel), List.mem_of_getElem? (i := 1131) (by decide +kernel), List.mem_of_getElem? (i := 1132) (by decide +kernel)⟩
theorem lw_p41 : lw_okq (⟨"SpringleafModel", "signs", "(I)I"⟩, 25) := ⟨⟨by decide +kernel, by decide +kernel⟩, List.mem_of_getElem? (i := 924) (by decide +kernel), List.mem_of_getElem? (i := 1155) (by decide +kernel), List.mem_of_getElem? (i := 1156) (by decide +kernel)⟩
theorem lw_p42 : lw_okq (⟨"SpringleafModel", "digits", "(I)I"⟩, 25) := ⟨⟨by decide +kernel, by decide +kernel⟩, List.mem_of_getElem? (i := 924) (by decide +kernel), List.mem_of_getElem? (i := 1159) (by decide +kernel), List.mem_of_getElem? (i := 1160) (by decide +kernel)⟩
theorem lw_p43 : lw_okq (⟨"SpringleafModel", "flat", "(I)I"⟩, 25) := ⟨⟨by decide +kernel, by decide +kernel⟩, List.mem_of_getElem? (i := 924) (by decide +kernel), List.mem_of_getElem? (i := 1163) (by decide +kernel), List.mem_of_getElem? (i := 1164) (by decide +kernel)⟩
theorem lw_p44 : lw_okq (⟨"SpringleafModel", "sign", "(II)C"⟩, 25) := ⟨⟨by decide +kernel, by decide +kernel⟩, List.mem_of_getElem? (i := 924) (by decide +kernel), List.mem_of_getElem? (i := 1167) (by decide +kernel), List.mem_of_getElem? (i := 1168) (by decide +kernel)⟩
theorem lw_p45 : lw_okq (⟨"SpringleafModel", "digit", "(II)C"⟩, 25) := ⟨⟨by decide +kernel, by decide +kernel⟩, List.mem_of_getElem? (i := 924) (by decide +kernel), List.mem_of_getElem? (i := 1171) (by decide +kernel), List.mem_of_getElem? (i := 1172) (by decide +kernel)⟩
def lw_privs_3 : List (MethodName × Nat) := [(⟨"SpringleafModel", "holds", "(I)Z"⟩, 25), (⟨"SpringleafModel", "isPart", "(I)Z"⟩, 25), (⟨"SpringleafModel", "lays", "()V"⟩, 25), (⟨"SpringleafModel", "shelfFor", "(I)I"⟩, 25), (⟨"SpringleafModel", "tall", "(I)I"⟩, 25), (⟨"SpringleafModel", "wide", "(I)I"⟩, 25), (⟨"SpringleafModel", "newShelf", "(I)I"⟩, 25), (⟨"SpringleafModel", "canGlue", "(I)Z"⟩, 25), (⟨"SpringleafModel", "stepOf", "(I)I"⟩, 25), (⟨"SpringleafModel", "signs", "(I)I"⟩, 25), (⟨"SpringleafModel", "digits", "(I)I"⟩, 25), (⟨"SpringleafModel", "flat", "(I)I"⟩, 25), (⟨"SpringleafModel", "sign", "(II)C"⟩, 25), (⟨"SpringleafModel", "digit", "(II)C"⟩, 25)]
theorem lw_r3 : ∀ q ∈ lw_privs_3, lw_okq q := List.forall_mem_cons.mpr ⟨lw_p32, List.forall_mem_cons.mpr ⟨lw_p33, List.forall_mem_cons.mpr ⟨lw_p34, List.forall_mem_cons.mpr ⟨lw_p35, List.forall_mem_cons.mpr ⟨lw_p36, List.forall_mem_cons.mpr ⟨lw_p37, List.forall_mem_cons.mpr ⟨lw_p38, List.forall_mem_cons.mpr ⟨lw_p39, List.forall_mem_cons.mpr ⟨lw_p40, List.forall_mem_cons.mpr ⟨lw_p41, List.forall_mem_cons.mpr ⟨lw_p42, List.forall_mem_cons.mpr ⟨lw_p43, List.forall_mem_cons.mpr ⟨lw_p44, List.forall_mem_cons.mpr ⟨lw_p45, fun _ h => absurd h List.not_mem_nil⟩⟩⟩⟩⟩⟩⟩⟩⟩⟩⟩⟩⟩⟩
def lw_privs : List (MethodName × Nat) := lw_privs_1 ++ (lw_privs_2 ++ (lw_privs_3))
def lw_tbl : List Cond := k2_sels lw_privs ++ tables_1
theorem lw_privs_ok : ∀ q ∈ lw_privs, lw_okq q := by
  show ∀ q ∈ lw_privs_1 ++ (lw_privs_2 ++ (lw_privs_3)), lw_okq q
  exact List.forall_mem_append.mpr ⟨lw_r1, List.forall_mem_append.mpr ⟨lw_r2, lw_r3⟩⟩
/-! ===== BEGIN exceptions that leave a method, and their catching by the caller (launches without stack traces) ===== -/
section VXA
/-! The laws vx_back, vx_callV, vx_callS, vx_callSW, vx_throw0, vx_throwS follow proofs of the library, with one case more: JvmDerived/Free/Laws.lean (Back.of_free), Shelf42/LK1.lean (callV, callS), Shelf/KitTraced.lean (throwNew0V, throwNewS). -/
/-- where a method has thrown q: the class by its name, the cell, what was written, the world -/
def vx_T (XC : String → State → State → Prop) (st : State) (q : Addr) (t : State) (mc ms : Nat) (free : Addr → Prop) : Prop :=
  ∃ (E : String) (ce : Cell) (L : List Loc), XC E st t ∧ t.heap[q]? = some ce ∧ ce.vm = .none ∧ st.vm.findClass E = some ce.cls ∧ st.WarmedH t.vm ∧ st.sameButNew ({ t with vm := st.vm } : State) L mc ms ∧ ∀ z ∈ L, free z.base
def vx_Q (Qc : Array Value → State → Outcome → State → Prop) (XC : String → State → State → Prop) (mc ms : Nat) (free : Addr → Prop) : Array Value → State → Outcome → State → Prop := fun a st o t =>
  (Qc a st o t ∧ ∃ L, FrameEnd st o t L mc ms ∧ ∀ q ∈ L, free q.base) ∨ ∃ q, o = .threw q ∧ vx_T XC st q t mc ms free
/-- a callee that returns or throws -/
def vx_Met (l : Launch) (y : MethodName) (ws : List Cond) (rm : Room) (Pc : Array Value → State → Prop) (Qc : Array Value → State → Outcome → State → Prop) (XC : String → State → State → Prop) (mc ms : Nat) (free : Addr → Prop) : Prop :=
  MetFree l y (headSpec ws rm) Pc (fun _ _ _ _ _ => True) (vx_Q Qc XC mc ms free)
def vx_Post (XC : String → State → State → Prop) (mc ms : Nat) (free : Addr → Prop) : Pt → Array Value → Addr → Pt → Prop := fun A a q B =>
  ∃ (g : JFrame) (mk : MethodId) (t : State) (L : List Loc) (E : String) (ce : Cell), B.U.heap = t.heap ∧ B.U.vm = t.vm ∧ XC E (A.U.calling g mk a) t ∧ t.heap[q]? = some ce ∧ ce.vm = .none ∧ A.U.vm.findClass E = some ce.cls ∧ B.locs = A.locs ++ L ∧ (∀ z ∈ L, free z.base) ∧ B.cells = A.cells + mc ∧ B.slots = A.slots + ms
def vx_Back (l : Launch) (R : Room) (p : Program) (e : Env) (below : List Frame) (s : State) (sargs : Array Value) (y : MethodName) (len W9 : Nat)
    (Pre : Pt → Array Value → Prop) (Post : Pt → Array Value → Option Value → Pt → Prop) (PostX : Pt → Array Value → Addr → Pt → Prop) : Prop :=
  ∀ (m : MethodId) (meth : Method) (c : Code) (A : Pt) (g : JFrame) (ig : Instr) (mk : MethodId) (a : Array Value),
    Stand p l e R s m sargs below meth c A.U A.locs A.cells A.slots → g.method = m → g.locals.size = c.maxLocals → decode c.code g.pc = .ok (ig, len) →
    2 * g.monitorRoom + (g.stack.map fun v => v.category).sum ≤ W9 → A.U.methodNamed? y = some mk → Pre A a →
    (∃ (v : Option Value) (B : Pt), Stand p l e R s m sargs below meth c B.U B.locs B.cells B.slots ∧ Post A a v B ∧
      Steps p.tables e below (doInvoke e (A.U.setTop g) [] mk a).1 (B.U.setTop { g with pc := g.pc + len, stack := v.toList ++ g.stack })) ∨
    (∃ (q : Addr) (B : Pt), Stand p l e R s m sargs below meth c B.U B.locs B.cells B.slots ∧ PostX A a q B ∧
      Steps p.tables e below (doInvoke e (A.U.setTop g) [] mk a).1 ((B.U.setTop g).pushFrame (.throwing q)))
section Payer
variable {l : Launch} {R : Room} {p : Program} {e : Env} {below : List Frame} {s : State} {sargs : Array Value} {y : MethodName} {len W9 : Nat}
theorem vx_back {ws : List Cond} {rm : Room} {Pc : Array Value → State → Prop} {Qc : Array Value → State → Outcome → State → Prop} {XC : String → State → State → Prop} {mc ms : Nat} {free : Addr → Prop} {bytes : ByteArray} {maxL : Nat} {ret : Option FieldType}
    (hM : vx_Met l y ws rm Pc Qc XC mc ms free) (hblind : FrameBlind Pc) (hrc : rm.cells = mc) (hrs : rm.slots = ms)
    (hframes : rm.frames + 1 ≤ R.frames) (hlocals : W9 + (maxL + 11) + rm.locals ≤ R.locals)
    (hws : ∀ w ∈ ws, ∀ a' U, s.WarmedH U.vm → w.before a' U = true) (hcode : Cond.code y bytes maxL ret ∈ ws) (hinit : ∀ a' U, s.WarmedH U.vm → (Cond.initialized y.cls).before a' U = true) :
    vx_Back l R p e below s sargs y len W9 (PreOf R mc ms Pc) (PostOf Qc mc ms free) (vx_Post XC mc ms free) := by
  intro m meth c A g ig mk a X hg hsize hdg hW hn hp
  have h1 : (headSpec ws rm).pre.before a A.U = true := atoms_intro fun w hw => hws w hw _ _ X.warmed
  have h2 : (Cond.code y bytes maxL ret).before a A.U = true := hws _ hcode _ _ X.warmed
  have h3 : (Cond.initialized y.cls).before a A.U = true := hinit _ _ X.warmed
  have h4 : A.cells + (headSpec ws rm).room.cells ≤ R.cells := by rw [show (headSpec ws rm).room.cells = mc from hrc]; exact hp.1
  have h5 : A.slots + (headSpec ws rm).room.slots ≤ R.slots := by rw [show (headSpec ws rm).room.slots = ms from hrs]; exact hp.2.1
  have hPc : Pc a (A.U.calling g mk a) := hblind _ _ _ _ hp.2.2
  obtain ⟨U, Ls, c0, s0⟩ := A
  dsimp only [Pt.U, Pt.locs, Pt.cells, Pt.slots] at h1 h2 h3 h4 h5 X hn hPc ⊢
  obtain ⟨methY, cY, hmY, hcY, -, hlY, -, -, -, -⟩ := Cond.code_spec hn h2
  obtain ⟨kY, hkY, -⟩ := className_of_methodNamed hn
  have hinitY : kY.init = .initialized := Cond.initialized_spec (findClass_of_methodNamed hn) hkY h3
  have h : At U g.method c below := by rw [hg]; exact X.here
  have hlocals9 : W9 + (maxL + 11) + (headSpec ws rm).room.locals ≤ R.locals := hlocals
  have happ : (headSpec ws rm).appliesLoose y e.platform (U.calling g mk a) = true :=
    Spec.appliesLoose_calling (g := g) h hdg hn hkY hinitY
      (X.room_calling (g := g) (R' := (headSpec ws rm).room) hsize hmY hcY hframes (by rw [hlY]; omega) h4 h5) h1
  obtain ⟨mid, hmid⟩ := h.above
  have hfr : (U.setTop g).frames = (.java g :: mid) ++ below := by rw [State.frames_setTop' g h.top, hmid]; rfl
  obtain ⟨o, s₂, hsteps, -, hend, hq⟩ := Steps.callFree hM p X.admits X.cas X.clock (acts := []) hfr happ hPc trivial
  have hq' : vx_Q Qc XC mc ms free a (U.calling g mk a) o s₂ := hq
  rw [State.frames_setTop' g h.top] at hend
  obtain ⟨g₀, hg0⟩ := Option.isSome_iff_exists.mp h.top
  obtain ⟨r, hr⟩ := State.topJava?_eq_some.mp hg0
  have hr' : (({ U with heap := s₂.heap, slotsUsed := s₂.slotsUsed } : State).setVm s₂.vm).frames = .java g₀ :: r := hr
  rcases hq' with ⟨hqc, L, hfe, hL⟩ | ⟨q, rfl, E, ce, L, hx, hce, hcv, hcl, hW₂, hsm, hL⟩
  · obtain ⟨⟨v, rfl⟩, hW₂, e2, q2, q3, q4, q5, q6⟩ := id hfe
    have e3 : s₂ = ({ (U.calling g mk a).setFrames s₂.frames with heap := s₂.heap, slotsUsed := s₂.slotsUsed } : State).setVm s₂.vm := by
      have : s₂ = ({ s₂ with vm := (U.calling g mk a).vm } : State).setVm s₂.vm := rfl
      rw [e2] at this
      exact this
    obtain ⟨c₂, i₂, len₂, hc₂, hd₂, hf₂⟩ := hend
    have hW' : U.WarmedH s₂.vm := hW₂
    have hcc : c₂ = c := by
      have h1 : s₂.code? g.method = U.code? g.method := by
        rw [State.code?_eq, State.code?_eq, hW'.alike.method?]
      exact Option.some.inj (hc₂.symm.trans (h1.trans h.code))
    subst hcc
    have hlen : len₂ = len := by rw [hdg] at hd₂; cases hd₂; rfl
    subst hlen
    have hs₂ : s₂ = (({ U with heap := s₂.heap, slotsUsed := s₂.slotsUsed } : State).setVm s₂.vm).setTop { g with pc := g.pc + len₂, stack := v.toList ++ g.stack } := by
      refine e3.trans ?_
      rw [hf₂, State.calling_eq h.top, State.setFrames_setFrames, State.setTop_of_frames _ hr', hr]
      rfl
    have hsame : U.sameButNew ({ U with heap := s₂.heap, slotsUsed := s₂.slotsUsed } : State) L mc ms := by
      refine ⟨?_, q2, q3, q4, q5, q6⟩
      obtain ⟨t, ht, -⟩ := State.frames_cons hr
      show ({ U with heap := s₂.heap, slotsUsed := s₂.slotsUsed } : State) = { U.setFrames U.frames with heap := s₂.heap, slotsUsed := s₂.slotsUsed }
      rw [State.setFrames_self ht]
    subst hg
    refine Or.inl ⟨v, ⟨(({ U with heap := s₂.heap, slotsUsed := s₂.slotsUsed } : State).setVm s₂.vm), Ls ++ L, c0 + mc, s0 + ms⟩,
      ⟨X.admits, X.cas, X.clock, X.frames, X.room, X.hears, X.method, X.code, (X.here.setHeapUsed s₂.heap s₂.slotsUsed).setVm hW'.alike, X.tail, State.WarmedH.trans X.warmed hW', X.limits, X.bytes, X.same.trans (hsame.setVm s.vm)⟩,
      ⟨g, mk, s₂, L, rfl, rfl, hqc, rfl, hL, rfl, rfl⟩, ?_⟩
    show Steps p.tables e below _ ((({ U with heap := s₂.heap, slotsUsed := s₂.slotsUsed } : State).setVm s₂.vm).setTop { g with pc := g.pc + len₂, stack := v.toList ++ g.stack })
    rw [← hs₂]
    exact hsteps
  · obtain ⟨e2, q2, q3, q4, q5, q6⟩ := id hsm
    have e3 : s₂ = ({ (U.calling g mk a).setFrames s₂.frames with heap := s₂.heap, slotsUsed := s₂.slotsUsed } : State).setVm s₂.vm := by
      have : s₂ = ({ s₂ with vm := (U.calling g mk a).vm } : State).setVm s₂.vm := rfl
      rw [e2] at this
      exact this
    have hf₂ : s₂.frames = .throwing q :: .java g :: U.frames.tail := hend
    have hW' : U.WarmedH s₂.vm := hW₂
    have hs₂ : s₂ = ((({ U with heap := s₂.heap, slotsUsed := s₂.slotsUsed } : State).setVm s₂.vm).setTop g).pushFrame (.throwing q) := by
      refine e3.trans ?_
      rw [hf₂, State.calling_eq h.top, State.setFrames_setFrames, State.pushFrame, State.frames_setTop _ hr', State.setTop_of_frames _ hr', State.setFrames_setFrames, hr]
      rfl
    have hsame : U.sameButNew ({ U with heap := s₂.heap, slotsUsed := s₂.slotsUsed } : State) L mc ms := by
      refine ⟨?_, q2, q3, q4, q5, q6⟩
      obtain ⟨t, ht, -⟩ := State.frames_cons hr
      show ({ U with heap := s₂.heap, slotsUsed := s₂.slotsUsed } : State) = { U.setFrames U.frames with heap := s₂.heap, slotsUsed := s₂.slotsUsed }
      rw [State.setFrames_self ht]
    subst hg
    refine Or.inr ⟨q, ⟨(({ U with heap := s₂.heap, slotsUsed := s₂.slotsUsed } : State).setVm s₂.vm), Ls ++ L, c0 + mc, s0 + ms⟩,
      ⟨X.admits, X.cas, X.clock, X.frames, X.room, X.hears, X.method, X.code, (X.here.setHeapUsed s₂.heap s₂.slotsUsed).setVm hW'.alike, X.tail, State.WarmedH.trans X.warmed hW', X.limits, X.bytes, X.same.trans (hsame.setVm s.vm)⟩,
      ⟨g, mk, s₂, L, E, ce, rfl, rfl, hx, hce, hcv, hcl, rfl, hL, rfl, rfl⟩, ?_⟩
    show Steps p.tables e below _ (((({ U with heap := s₂.heap, slotsUsed := s₂.slotsUsed } : State).setVm s₂.vm).setTop g).pushFrame (.throwing q))
    rw [← hs₂]
    exact hsteps
end Payer
section Calls
variable {p : Program} {l : Launch} {e : Env} {R : Room} {s : State} {m : MethodId} {args : Array Value} {below : List Frame} {meth : Method} {c : Code} {T : State} {locs : List Loc} {cells slots : Nat}
theorem vx_callV (X : Stand p l e R s m args below meth c T locs cells slots) (hexec : p.tables.exec = Jvm.exec) {own C : String} {index : Nat} {y : MethodName} {bytes : ByteArray} {maxL : Nat} {ret : Option FieldType}
    (hown : s.vm.findClass own = some m.cls) (hlink : (Cond.methodLink own index y).before args s = true) (hinst : (Cond.instanceMethod y).before args s = true) (hsel : (Cond.selects C y y).before args s = true)
    (hcode : (Cond.code y bytes maxL ret).before args s = true) (hy : y.cls ≠ "java/lang/invoke/MethodHandle" ∧ y.cls ≠ "java/lang/invoke/VarHandle")
    {W9 : Nat} {Pre : Pt → Array Value → Prop} {Post : Pt → Array Value → Option Value → Pt → Prop} {PostX : Pt → Array Value → Addr → Pt → Prop} (hK : vx_Back l R p e below s args y 3 W9 Pre Post PostX)
    {b : Addr} {cellB : Cell} (hcell : T.heap[b]? = some cellB) (hobj : cellB.vm.isStatics = false) (hcls : s.vm.findClass C = some cellB.cls)
    {g : JFrame} (hg : g.method = m) (hsize : g.locals.size = c.maxLocals) {argsL rest : List Value} (hlen : ∀ sig, parseMethodDescriptor y.desc = some sig → argsL.length = sig.parameters.length)
    (hstack : g.stack = argsL.reverse ++ .ref b :: rest) (hW : 2 * g.monitorRoom + (rest.map fun v => v.category).sum ≤ W9) (hdg : decode c.code g.pc = .ok (.invokevirtual index, 3))
    (hpre : ∀ vm₁, s.WarmedH vm₁ → Pre ⟨T.setVm vm₁, locs, cells, slots⟩ (Value.ref b :: argsL).toArray) :
    (∃ (v : Option Value) (vm₁ : Vm) (B : Pt), s.WarmedH vm₁ ∧ Stand p l e R s m args below meth c B.U B.locs B.cells B.slots ∧ Post ⟨T.setVm vm₁, locs, cells, slots⟩ (Value.ref b :: argsL).toArray v B ∧
      ∀ target, Steps p.tables e below (B.U.setTop { g with pc := g.pc + 3, stack := v.toList ++ rest }) target → Steps p.tables e below (T.setTop g) target) ∨
    (∃ (q : Addr) (vm₁ : Vm) (B : Pt), s.WarmedH vm₁ ∧ Stand p l e R s m args below meth c B.U B.locs B.cells B.slots ∧ PostX ⟨T.setVm vm₁, locs, cells, slots⟩ (Value.ref b :: argsL).toArray q B ∧
      Steps p.tables e below (T.setTop g) ((B.U.setTop { g with stack := rest }).pushFrame (.throwing q))) := by
  obtain ⟨mk, methM, hnamed, hmethM, hstM, habM⟩ := Cond.instanceMethod_spec hinst
  obtain ⟨methM', cM, hmethM', -, -, -, -, -, -, hsigM⟩ := Cond.code_spec hnamed hcode
  cases hmethM.symm.trans hmethM'
  obtain ⟨c2, r2, m2, q1, q2, q3, q4, kP, hkP, hkPi⟩ := Cond.selects_spec hsel
  cases hcls.symm.trans q1
  cases (State.methodFound?_of_named hnamed hy).symm.trans q2
  cases hnamed.symm.trans q3
  have hselP : selectMethod e.platform s.vm cellB.cls mk = .method mk := by rw [Launch.admits_selectMethod X.admits]; exact q4
  obtain ⟨vm₁, X₁, hstep₁⟩ := X.invokevirtual hexec hown hlink hnamed hmethM hstM hkP hkPi hy (a := b) (cell := cellB) hcell
    (fun z h => by rw [h] at hobj; cases hobj) hselP hmethM habM hkP hkPi (g := g) hg (argsL := argsL) (rest := rest) (hlen _ hsigM) hstack hdg
  rcases hK m meth c ⟨T.setVm vm₁, locs, cells, slots⟩ { g with stack := rest } (.invokevirtual index) mk (Value.ref b :: argsL).toArray X₁ hg hsize hdg hW (X₁.named hnamed) (hpre vm₁ X₁.warmed) with ⟨v, B, X', hpost, hsteps⟩ | ⟨q, B, X', hpost, hsteps⟩
  · exact Or.inl ⟨v, vm₁, B, X₁.warmed, X', hpost, fun target h => hstep₁ _ fun acts => by rw [doInvoke_state]; exact hsteps.trans h⟩
  · exact Or.inr ⟨q, vm₁, B, X₁.warmed, X', hpost, hstep₁ _ fun acts => by rw [doInvoke_state]; exact hsteps⟩
theorem vx_callS (X : Stand p l e R s m args below meth c T locs cells slots) (hexec : p.tables.exec = Jvm.exec) {own : String} {index : Nat} {y : MethodName} {bytes : ByteArray} {maxL : Nat} {ret : Option FieldType}
    (hown : s.vm.findClass own = some m.cls) (hlink : (Cond.methodLink own index y).before args s = true) (hstat : (Cond.static y).before args s = true) (hinit : (Cond.initialized y.cls).before args s = true)
    (hcode : (Cond.code y bytes maxL ret).before args s = true) (hy : y.cls ≠ "java/lang/invoke/MethodHandle" ∧ y.cls ≠ "java/lang/invoke/VarHandle")
    {W9 : Nat} {Pre : Pt → Array Value → Prop} {Post : Pt → Array Value → Option Value → Pt → Prop} {PostX : Pt → Array Value → Addr → Pt → Prop} (hK : vx_Back l R p e below s args y 3 W9 Pre Post PostX)
    {g : JFrame} (hg : g.method = m) (hsize : g.locals.size = c.maxLocals) {argsL rest : List Value} (hlen : ∀ sig, parseMethodDescriptor y.desc = some sig → argsL.length = sig.parameters.length)
    (hstack : g.stack = argsL.reverse ++ rest) (hW : 2 * g.monitorRoom + (rest.map fun v => v.category).sum ≤ W9) (hdg : decode c.code g.pc = .ok (.invokestatic index, 3))
    (hpre : ∀ vm₁, s.WarmedH vm₁ → Pre ⟨T.setVm vm₁, locs, cells, slots⟩ argsL.toArray) :
    (∃ (v : Option Value) (vm₁ : Vm) (B : Pt), s.WarmedH vm₁ ∧ Stand p l e R s m args below meth c B.U B.locs B.cells B.slots ∧ Post ⟨T.setVm vm₁, locs, cells, slots⟩ argsL.toArray v B ∧
      ∀ target, Steps p.tables e below (B.U.setTop { g with pc := g.pc + 3, stack := v.toList ++ rest }) target → Steps p.tables e below (T.setTop g) target) ∨
    (∃ (q : Addr) (vm₁ : Vm) (B : Pt), s.WarmedH vm₁ ∧ Stand p l e R s m args below meth c B.U B.locs B.cells B.slots ∧ PostX ⟨T.setVm vm₁, locs, cells, slots⟩ argsL.toArray q B ∧
      Steps p.tables e below (T.setTop g) ((B.U.setTop { g with stack := rest }).pushFrame (.throwing q))) := by
  obtain ⟨mk, hnamed⟩ := Cond.code_named hcode
  obtain ⟨methM, cM, hmethM, -, -, -, -, -, -, hsigM⟩ := Cond.code_spec hnamed hcode
  have hstatic : methM.isStatic = true := Cond.static_spec hnamed hmethM hstat
  obtain ⟨kP, hkP, -⟩ := className_of_methodNamed hnamed
  have hinitP : kP.init = .initialized := Cond.initialized_spec (findClass_of_methodNamed hnamed) hkP hinit
  obtain ⟨vm₁, X₁, hstep₁⟩ := X.invokestatic hexec hown hlink hnamed hmethM hstatic hkP hinitP hy (g := g) hg (argsL := argsL) (rest := rest) (hlen _ hsigM) hstack hdg
  rcases hK m meth c ⟨T.setVm vm₁, locs, cells, slots⟩ { g with stack := rest } (.invokestatic index) mk argsL.toArray X₁ hg hsize hdg hW (X₁.named hnamed) (hpre vm₁ X₁.warmed) with ⟨v, B, X', hpost, hsteps⟩ | ⟨q, B, X', hpost, hsteps⟩
  · exact Or.inl ⟨v, vm₁, B, X₁.warmed, X', hpost, fun target h => hstep₁ _ fun acts => by rw [doInvoke_state]; exact hsteps.trans h⟩
  · exact Or.inr ⟨q, vm₁, B, X₁.warmed, X', hpost, hstep₁ _ fun acts => by rw [doInvoke_state]; exact hsteps⟩
end Calls
theorem vx_cls {s : State} {T : State} {vm₁ : Vm} {E : String} {k : ClassId} (hW : s.WarmedH vm₁) (h : (T.setVm vm₁).vm.findClass E = some k) : s.vm.findClass E = some k := by
  have h1 : vm₁.findClass E = some k := h
  rw [hW.alike.findClass] at h1
  exact h1
/-- the method's frame g, with q thrown over it -/
def vx_W (p : Program) (l : Launch) (e : Env) (R : Room) (s : State) (m : MethodId) (args : Array Value) (below : List Frame) (meth : Method) (c : Code) (H : Heap) (locs : List Loc) (cells slots : Nat) (Q : State → Prop) (g : JFrame) (q : Addr) : Prop :=
  ∀ T : State, T.heap = H → Stand p l e R s m args below meth c T locs cells slots → ∃ t, Steps p.tables e below ((T.setTop g).pushFrame (.throwing q)) t ∧ Q t
def vx_Run (p : Program) (l : Launch) (e : Env) (R : Room) (s : State) (m : MethodId) (args : Array Value) (below : List Frame) (meth : Method) (c : Code) (H : Heap) (locs : List Loc) (cells slots mc ms : Nat) (g : JFrame) (rest : List Value) (Qa : State → Outcome → State → Prop) (XC : String → State → State → Prop) (free : Addr → Prop) : Prop :=
  ∀ T : State, T.heap = H → Stand p l e R s m args below meth c T locs cells slots →
    (∃ (v : Option Value) (st₀ t T' : State) (L : List Loc), st₀.heap = H ∧ Stand p l e R s m args below meth c T' (locs ++ L) (cells + mc) (slots + ms) ∧ (∀ q ∈ L, free q.base) ∧ T'.heap = t.heap ∧ T'.vm = t.vm ∧ Qa st₀ (.returned v) t ∧
      Goes p e below T g T' { g with pc := g.pc + 3, stack := v.toList ++ rest }) ∨
    (∃ (q : Addr) (st₀ t T' : State) (L : List Loc) (E : String) (ce : Cell), st₀.heap = H ∧ Stand p l e R s m args below meth c T' (locs ++ L) (cells + mc) (slots + ms) ∧ (∀ z ∈ L, free z.base) ∧ T'.heap = t.heap ∧ T'.vm = t.vm ∧ XC E st₀ t ∧ t.heap[q]? = some ce ∧ ce.vm = .none ∧ s.vm.findClass E = some ce.cls ∧
      Steps p.tables e below (T.setTop g) ((T'.setTop { g with stack := rest }).pushFrame (.throwing q)))
def vx_X {S : Type} (px : S → Prop) (B : String → S → State → Prop) (A : Nat → Prop) : String → State → State → Prop := fun E st t => ∃ u : S, px u ∧ B E u t ∧ va_F A st t
section Runs
variable {p : Program} {l : Launch} {e : Env} {R : Room} {s : State} {m : MethodId} {args : Array Value} {below : List Frame} {meth : Method} {c : Code} {H : Heap} {locs : List Loc} {cells slots : Nat}
variable {y : MethodName} {bytes cc : ByteArray} {maxL nL mc ms n index : Nat} {ret : Option FieldType} {ws : List Cond} {rm : Room} {Pc : Array Value → State → Prop} {Qc : Array Value → State → Outcome → State → Prop} {XC : String → State → State → Prop} {free : Addr → Prop} {Ts : List Cond} {own C : String} {b : Addr} {As rest : List Value} {g : JFrame}
theorem vx_callBack (cb : CallB R s args own index y bytes maxL ret ws rm mc ms n) (hM : vx_Met l y ws rm Pc Qc XC mc ms free) (hbl : FrameBlind Pc) : vx_Back l R p e below s args y 3 8 (PreOf R mc ms Pc) (PostOf Qc mc ms free) (vx_Post XC mc ms free) := by
  obtain ⟨hrc, hrs, hfr, hlo, hws, hcw, -, hini, -⟩ := cb
  exact vx_back (bytes := bytes) (maxL := maxL) (ret := ret) hM hbl hrc hrs hfr hlo hws hcw (fun a' U hW => word_at hW (Or.inl (by first | rfl | simp [Cond.onTables, Cond.keeps, Cond.steady])) hini)
theorem vx_runV (S : CallFix p m c cc nL s args Ts own) (hM : vx_Met l y ws rm Pc Qc XC mc ms free) (cw : CallW R s args own C index y bytes maxL ret ws rm mc ms n) (hp : PreV s H C b Pc As)
    (hg : g.method = m) (hn : As.length = n) (hsize : g.locals.size = nL) (hstack : g.stack = As.reverse ++ .ref b :: rest) (hW : 2 * g.monitorRoom + (rest.map fun v => v.category).sum ≤ 8) (hdg : decode cc g.pc = .ok (.invokevirtual index, 3)) (hf : cells + mc ≤ R.cells ∧ slots + ms ≤ R.slots) :
    vx_Run p l e R s m args below meth c H locs cells slots mc ms g rest (Qc (Value.ref b :: As).toArray) XC free := by
  have hK : vx_Back l R p e below s args y 3 8 (PreOf R mc ms Pc) (PostOf Qc mc ms free) (vx_Post XC mc ms free) := vx_callBack cw.1 hM hp.1
  obtain ⟨⟨-, -, -, -, -, -, hcode, -, hy, hlen, hl⟩, hin, hse⟩ := cw
  obtain ⟨hx, hb, hml, ho, -⟩ := S
  obtain ⟨-, ⟨cellB, hcB, hoB, hclB⟩, hPc⟩ := hp
  intro T hT X
  rcases vx_callV X hx (C := C) (bytes := bytes) (maxL := maxL) (ret := ret) ho hl hin hse hcode hy hK (by rw [hT]; exact hcB) hoB hclB hg (hsize.trans hml.symm) (argsL := As) (rest := rest) (fun sig h => hn.trans (hlen sig h)) hstack hW (by rw [hb]; exact hdg)
    (fun vm₁ hW₁ => ⟨hf.1, hf.2, hPc (T.setVm vm₁) hT hW₁⟩) with ⟨v, vm₁, ⟨U', l2, c2, s2⟩, hW₁, X', ⟨g', mk, t, L, e1, e2, hq, h1, hL, h2, h3⟩, st⟩ | ⟨q, vm₁, ⟨U', l2, c2, s2⟩, hW₁, X', ⟨g', mk, t, L, E, ce, e1, e2, hq, hce, hcv, hcl, h1, hL, h2, h3⟩, st⟩
  · dsimp only [Pt.U, Pt.locs, Pt.cells, Pt.slots] at X' e1 e2 h1 h2 h3 st
    subst h1; subst h2; subst h3
    exact Or.inl ⟨v, (T.setVm vm₁).calling g' mk (Value.ref b :: As).toArray, t, U', L, hT, X', hL, e1, e2, hq, st⟩
  · dsimp only [Pt.U, Pt.locs, Pt.cells, Pt.slots] at X' e1 e2 h1 h2 h3 st hcl
    subst h1; subst h2; subst h3
    exact Or.inr ⟨q, (T.setVm vm₁).calling g' mk (Value.ref b :: As).toArray, t, U', L, E, ce, hT, X', hL, e1, e2, hq, hce, hcv, vx_cls hW₁ hcl, st⟩
theorem vx_runS (S : CallFix p m c cc nL s args Ts own) (hM : vx_Met l y ws rm Pc Qc XC mc ms free) (cw : CallB R s args own index y bytes maxL ret ws rm mc ms n ∧ (Cond.static y).before args s = true) (hp : PreS s H Pc As)
    (hg : g.method = m) (hn : As.length = n) (hsize : g.locals.size = nL) (hstack : g.stack = As.reverse ++ rest) (hW : 2 * g.monitorRoom + (rest.map fun v => v.category).sum ≤ 8) (hdg : decode cc g.pc = .ok (.invokestatic index, 3)) (hf : cells + mc ≤ R.cells ∧ slots + ms ≤ R.slots) :
    vx_Run p l e R s m args below meth c H locs cells slots mc ms g rest (Qc As.toArray) XC free := by
  have hK : vx_Back l R p e below s args y 3 8 (PreOf R mc ms Pc) (PostOf Qc mc ms free) (vx_Post XC mc ms free) := vx_callBack cw.1 hM hp.1
  obtain ⟨⟨-, -, -, -, -, -, hcode, hini, hy, hlen, hl⟩, hstt⟩ := cw
  obtain ⟨hx, hb, hml, ho, -⟩ := S
  intro T hT X
  rcases vx_callS X hx (bytes := bytes) (maxL := maxL) (ret := ret) ho hl hstt hini hcode hy hK hg (hsize.trans hml.symm) (argsL := As) (rest := rest) (fun sig h => hn.trans (hlen sig h)) hstack hW (by rw [hb]; exact hdg)
    (fun vm₁ hW₁ => ⟨hf.1, hf.2, hp.2 (T.setVm vm₁) hT hW₁⟩) with ⟨v, vm₁, ⟨U', l2, c2, s2⟩, hW₁, X', ⟨g', mk, t, L, e1, e2, hq, h1, hL, h2, h3⟩, st⟩ | ⟨q, vm₁, ⟨U', l2, c2, s2⟩, hW₁, X', ⟨g', mk, t, L, E, ce, e1, e2, hq, hce, hcv, hcl, h1, hL, h2, h3⟩, st⟩
  · dsimp only [Pt.U, Pt.locs, Pt.cells, Pt.slots] at X' e1 e2 h1 h2 h3 st
    subst h1; subst h2; subst h3
    exact Or.inl ⟨v, (T.setVm vm₁).calling g' mk As.toArray, t, U', L, hT, X', hL, e1, e2, hq, st⟩
  · dsimp only [Pt.U, Pt.locs, Pt.cells, Pt.slots] at X' e1 e2 h1 h2 h3 st hcl
    subst h1; subst h2; subst h3
    exact Or.inr ⟨q, (T.setVm vm₁).calling g' mk As.toArray, t, U', L, E, ce, hT, X', hL, e1, e2, hq, hce, hcv, vx_cls hW₁ hcl, st⟩
end Runs
section Rows
variable {p : Program} {l : Launch} {e : Env} {R : Room} {s : State} {m : MethodId} {args : Array Value} {below : List Frame} {meth : Method} {c : Code} {H : Heap} {locs : List Loc} {cells slots : Nat} {Q : State → Prop}
variable {mc ms : Nat} {free : Addr → Prop} {A0 A1 : Nat → Prop} {H0 : Heap} {a : Array Value} {pc : Nat} {ls : Array Slot} {st0 rest : List Value}
theorem vx_keep {st₀ t T' : State} {L : List Loc} (h0 : st₀.heap = H) (e1 : T'.heap = t.heap) (hS : va_S A0 H0 H locs) (hA : ∀ q, q < H.size → A1 q → A0 q) (hf : ∀ q, free q → A0 q) (hL : ∀ q ∈ L, free q.base) (hF : va_F A1 st₀ t) :
    H.size ≤ T'.heap.size ∧ (∀ q : Nat, q < H.size → ¬ A1 q → T'.heap[q]? = H[q]?) ∧ va_S A0 H0 T'.heap (locs ++ L) := by
  obtain ⟨hz, hk⟩ := hF
  rw [h0] at hz hk
  exact ⟨by rw [e1]; exact hz, fun q h1 h2 => by rw [e1]; exact hk q h1 h2,
    ⟨Nat.le_trans hS.1 (by rw [e1]; exact hz), fun q h1 h2 => by rw [e1, hk q (Nat.lt_of_lt_of_le h1 hS.1) (fun z => h2 (hA q (Nat.lt_of_lt_of_le h1 hS.1) z))]; exact hS.2.1 q h1 h2, fun q hq => by
      rcases List.mem_append.mp hq with h | h
      · exact hS.2.2 q h
      · exact hf _ (hL q h)⟩⟩
theorem vx_calli {S SX : Type} {post : Int32 → S → Prop} {px : SX → Prop} {B : S → State → Prop} {BX : String → SX → State → Prop} {AX : Nat → Prop} (hr : vx_Run p l e R s m args below meth c H locs cells slots mc ms (F0 m pc ls st0) rest (va_Qi post B A1 a) (vx_X px BX AX) free) (hS : va_S A0 H0 H locs) (hA : ∀ q, q < H.size → A1 q → A0 q) (hf : ∀ q, free q → A0 q) (hAX : ∀ q, q < H.size → AX q → A0 q)
    (kx : ∀ (E : String) (ce : Cell) (q9 : Addr) (u : SX) (t : State) (H1 : Heap) (locs1 : List Loc), t.heap = H1 → s.vm.Alike t.vm → px u → BX E u t → H.size ≤ H1.size → (∀ q : Nat, q < H.size → ¬ AX q → H1[q]? = H[q]?) → va_S A0 H0 H1 locs1 → H1[q9]? = some ce → ce.vm = .none → s.vm.findClass E = some ce.cls → vx_W p l e R s m args below meth c H1 locs1 (cells + mc) (slots + ms) Q (F0 m pc ls rest) q9)
    (kk : ∀ (r : Int32) (u : S) (t : State) (H1 : Heap) (locs1 : List Loc), t.heap = H1 → s.vm.Alike t.vm → post r u → B u t → H.size ≤ H1.size → (∀ q : Nat, q < H.size → ¬ A1 q → H1[q]? = H[q]?) → va_S A0 H0 H1 locs1 → W p l e R s m args below meth c H1 locs1 (cells + mc) (slots + ms) Q (F0 m (pc + 3) ls (.int r :: rest))) : W p l e R s m args below meth c H locs cells slots Q (F0 m pc ls st0) := by
  intro T hT X
  rcases hr T hT X with ⟨v, st₀, t, T', L, h0, X', hL, e1, e2, ⟨⟨r, u, hv, hp, hb⟩, hF⟩, st⟩ | ⟨q, st₀, t, T', L, E, ce, h0, X', hL, e1, e2, ⟨u, hp, hb, hF⟩, hce, hcv, hcl, st⟩
  · cases hv
    obtain ⟨k1, k2, k3⟩ := vx_keep h0 e1 hS hA hf hL hF
    obtain ⟨t2, a1, b1⟩ := kk r u t T'.heap (locs ++ L) e1.symm (by rw [← e2]; exact X'.warmed.alike) hp hb k1 k2 k3 T' rfl X'
    exact ⟨t2, st t2 a1, b1⟩
  · obtain ⟨k1, k2, k3⟩ := vx_keep h0 e1 hS hAX hf hL hF
    obtain ⟨t2, a1, b1⟩ := kx E ce q u t T'.heap (locs ++ L) e1.symm (by rw [← e2]; exact X'.warmed.alike) hp hb k1 k2 k3 (by rw [e1]; exact hce) hcv hcl T' rfl X'
    exact ⟨t2, st.trans a1, b1⟩
theorem vx_calll {S SX : Type} {post : Int64 → S → Prop} {px : SX → Prop} {B : S → State → Prop} {BX : String → SX → State → Prop} {AX : Nat → Prop} (hr : vx_Run p l e R s m args below meth c H locs cells slots mc ms (F0 m pc ls st0) rest (va_Ql post B A1 a) (vx_X px BX AX) free) (hS : va_S A0 H0 H locs) (hA : ∀ q, q < H.size → A1 q → A0 q) (hf : ∀ q, free q → A0 q) (hAX : ∀ q, q < H.size → AX q → A0 q)
    (kx : ∀ (E : String) (ce : Cell) (q9 : Addr) (u : SX) (t : State) (H1 : Heap) (locs1 : List Loc), t.heap = H1 → s.vm.Alike t.vm → px u → BX E u t → H.size ≤ H1.size → (∀ q : Nat, q < H.size → ¬ AX q → H1[q]? = H[q]?) → va_S A0 H0 H1 locs1 → H1[q9]? = some ce → ce.vm = .none → s.vm.findClass E = some ce.cls → vx_W p l e R s m args below meth c H1 locs1 (cells + mc) (slots + ms) Q (F0 m pc ls rest) q9)
    (kk : ∀ (r : Int64) (u : S) (t : State) (H1 : Heap) (locs1 : List Loc), t.heap = H1 → s.vm.Alike t.vm → post r u → B u t → H.size ≤ H1.size → (∀ q : Nat, q < H.size → ¬ A1 q → H1[q]? = H[q]?) → va_S A0 H0 H1 locs1 → W p l e R s m args below meth c H1 locs1 (cells + mc) (slots + ms) Q (F0 m (pc + 3) ls (.long r :: rest))) : W p l e R s m args below meth c H locs cells slots Q (F0 m pc ls st0) := by
  intro T hT X
  rcases hr T hT X with ⟨v, st₀, t, T', L, h0, X', hL, e1, e2, ⟨⟨r, u, hv, hp, hb⟩, hF⟩, st⟩ | ⟨q, st₀, t, T', L, E, ce, h0, X', hL, e1, e2, ⟨u, hp, hb, hF⟩, hce, hcv, hcl, st⟩
  · cases hv
    obtain ⟨k1, k2, k3⟩ := vx_keep h0 e1 hS hA hf hL hF
    obtain ⟨t2, a1, b1⟩ := kk r u t T'.heap (locs ++ L) e1.symm (by rw [← e2]; exact X'.warmed.alike) hp hb k1 k2 k3 T' rfl X'
    exact ⟨t2, st t2 a1, b1⟩
  · obtain ⟨k1, k2, k3⟩ := vx_keep h0 e1 hS hAX hf hL hF
    obtain ⟨t2, a1, b1⟩ := kx E ce q u t T'.heap (locs ++ L) e1.symm (by rw [← e2]; exact X'.warmed.alike) hp hb k1 k2 k3 (by rw [e1]; exact hce) hcv hcl T' rfl X'
    exact ⟨t2, st.trans a1, b1⟩
theorem vx_callf {S SX : Type} {post : UInt32 → S → Prop} {px : SX → Prop} {B : S → State → Prop} {BX : String → SX → State → Prop} {AX : Nat → Prop} (hr : vx_Run p l e R s m args below meth c H locs cells slots mc ms (F0 m pc ls st0) rest (va_Qf post B A1 a) (vx_X px BX AX) free) (hS : va_S A0 H0 H locs) (hA : ∀ q, q < H.size → A1 q → A0 q) (hf : ∀ q, free q → A0 q) (hAX : ∀ q, q < H.size → AX q → A0 q)
    (kx : ∀ (E : String) (ce : Cell) (q9 : Addr) (u : SX) (t : State) (H1 : Heap) (locs1 : List Loc), t.heap = H1 → s.vm.Alike t.vm → px u → BX E u t → H.size ≤ H1.size → (∀ q : Nat, q < H.size → ¬ AX q → H1[q]? = H[q]?) → va_S A0 H0 H1 locs1 → H1[q9]? = some ce → ce.vm = .none → s.vm.findClass E = some ce.cls → vx_W p l e R s m args below meth c H1 locs1 (cells + mc) (slots + ms) Q (F0 m pc ls rest) q9)
    (kk : ∀ (r : UInt32) (u : S) (t : State) (H1 : Heap) (locs1 : List Loc), t.heap = H1 → s.vm.Alike t.vm → post r u → B u t → H.size ≤ H1.size → (∀ q : Nat, q < H.size → ¬ A1 q → H1[q]? = H[q]?) → va_S A0 H0 H1 locs1 → W p l e R s m args below meth c H1 locs1 (cells + mc) (slots + ms) Q (F0 m (pc + 3) ls (.float r :: rest))) : W p l e R s m args below meth c H locs cells slots Q (F0 m pc ls st0) := by
  intro T hT X
  rcases hr T hT X with ⟨v, st₀, t, T', L, h0, X', hL, e1, e2, ⟨⟨r, u, hv, hp, hb⟩, hF⟩, st⟩ | ⟨q, st₀, t, T', L, E, ce, h0, X', hL, e1, e2, ⟨u, hp, hb, hF⟩, hce, hcv, hcl, st⟩
  · cases hv
    obtain ⟨k1, k2, k3⟩ := vx_keep h0 e1 hS hA hf hL hF
    obtain ⟨t2, a1, b1⟩ := kk r u t T'.heap (locs ++ L) e1.symm (by rw [← e2]; exact X'.warmed.alike) hp hb k1 k2 k3 T' rfl X'
    exact ⟨t2, st t2 a1, b1⟩
  · obtain ⟨k1, k2, k3⟩ := vx_keep h0 e1 hS hAX hf hL hF
    obtain ⟨t2, a1, b1⟩ := kx E ce q u t T'.heap (locs ++ L) e1.symm (by rw [← e2]; exact X'.warmed.alike) hp hb k1 k2 k3 (by rw [e1]; exact hce) hcv hcl T' rfl X'
    exact ⟨t2, st.trans a1, b1⟩
theorem vx_calld {S SX : Type} {post : UInt64 → S → Prop} {px : SX → Prop} {B : S → State → Prop} {BX : String → SX → State → Prop} {AX : Nat → Prop} (hr : vx_Run p l e R s m args below meth c H locs cells slots mc ms (F0 m pc ls st0) rest (va_Qd post B A1 a) (vx_X px BX AX) free) (hS : va_S A0 H0 H locs) (hA : ∀ q, q < H.size → A1 q → A0 q) (hf : ∀ q, free q → A0 q) (hAX : ∀ q, q < H.size → AX q → A0 q)
    (kx : ∀ (E : String) (ce : Cell) (q9 : Addr) (u : SX) (t : State) (H1 : Heap) (locs1 : List Loc), t.heap = H1 → s.vm.Alike t.vm → px u → BX E u t → H.size ≤ H1.size → (∀ q : Nat, q < H.size → ¬ AX q → H1[q]? = H[q]?) → va_S A0 H0 H1 locs1 → H1[q9]? = some ce → ce.vm = .none → s.vm.findClass E = some ce.cls → vx_W p l e R s m args below meth c H1 locs1 (cells + mc) (slots + ms) Q (F0 m pc ls rest) q9)
    (kk : ∀ (r : UInt64) (u : S) (t : State) (H1 : Heap) (locs1 : List Loc), t.heap = H1 → s.vm.Alike t.vm → post r u → B u t → H.size ≤ H1.size → (∀ q : Nat, q < H.size → ¬ A1 q → H1[q]? = H[q]?) → va_S A0 H0 H1 locs1 → W p l e R s m args below meth c H1 locs1 (cells + mc) (slots + ms) Q (F0 m (pc + 3) ls (.double r :: rest))) : W p l e R s m args below meth c H locs cells slots Q (F0 m pc ls st0) := by
  intro T hT X
  rcases hr T hT X with ⟨v, st₀, t, T', L, h0, X', hL, e1, e2, ⟨⟨r, u, hv, hp, hb⟩, hF⟩, st⟩ | ⟨q, st₀, t, T', L, E, ce, h0, X', hL, e1, e2, ⟨u, hp, hb, hF⟩, hce, hcv, hcl, st⟩
  · cases hv
    obtain ⟨k1, k2, k3⟩ := vx_keep h0 e1 hS hA hf hL hF
    obtain ⟨t2, a1, b1⟩ := kk r u t T'.heap (locs ++ L) e1.symm (by rw [← e2]; exact X'.warmed.alike) hp hb k1 k2 k3 T' rfl X'
    exact ⟨t2, st t2 a1, b1⟩
  · obtain ⟨k1, k2, k3⟩ := vx_keep h0 e1 hS hAX hf hL hF
    obtain ⟨t2, a1, b1⟩ := kx E ce q u t T'.heap (locs ++ L) e1.symm (by rw [← e2]; exact X'.warmed.alike) hp hb k1 k2 k3 (by rw [e1]; exact hce) hcv hcl T' rfl X'
    exact ⟨t2, st.trans a1, b1⟩
theorem vx_callv {S SX : Type} {post : S → Prop} {px : SX → Prop} {B : S → State → Prop} {BX : String → SX → State → Prop} {AX : Nat → Prop} (hr : vx_Run p l e R s m args below meth c H locs cells slots mc ms (F0 m pc ls st0) rest (va_Qv post B A1 a) (vx_X px BX AX) free) (hS : va_S A0 H0 H locs) (hA : ∀ q, q < H.size → A1 q → A0 q) (hf : ∀ q, free q → A0 q) (hAX : ∀ q, q < H.size → AX q → A0 q)
    (kx : ∀ (E : String) (ce : Cell) (q9 : Addr) (u : SX) (t : State) (H1 : Heap) (locs1 : List Loc), t.heap = H1 → s.vm.Alike t.vm → px u → BX E u t → H.size ≤ H1.size → (∀ q : Nat, q < H.size → ¬ AX q → H1[q]? = H[q]?) → va_S A0 H0 H1 locs1 → H1[q9]? = some ce → ce.vm = .none → s.vm.findClass E = some ce.cls → vx_W p l e R s m args below meth c H1 locs1 (cells + mc) (slots + ms) Q (F0 m pc ls rest) q9)
    (kk : ∀ (u : S) (t : State) (H1 : Heap) (locs1 : List Loc), t.heap = H1 → s.vm.Alike t.vm → post u → B u t → H.size ≤ H1.size → (∀ q : Nat, q < H.size → ¬ A1 q → H1[q]? = H[q]?) → va_S A0 H0 H1 locs1 → W p l e R s m args below meth c H1 locs1 (cells + mc) (slots + ms) Q (F0 m (pc + 3) ls (rest))) : W p l e R s m args below meth c H locs cells slots Q (F0 m pc ls st0) := by
  intro T hT X
  rcases hr T hT X with ⟨v, st₀, t, T', L, h0, X', hL, e1, e2, ⟨⟨u, hv, hp, hb⟩, hF⟩, st⟩ | ⟨q, st₀, t, T', L, E, ce, h0, X', hL, e1, e2, ⟨u, hp, hb, hF⟩, hce, hcv, hcl, st⟩
  · cases hv
    obtain ⟨k1, k2, k3⟩ := vx_keep h0 e1 hS hA hf hL hF
    obtain ⟨t2, a1, b1⟩ := kk u t T'.heap (locs ++ L) e1.symm (by rw [← e2]; exact X'.warmed.alike) hp hb k1 k2 k3 T' rfl X'
    exact ⟨t2, st t2 a1, b1⟩
  · obtain ⟨k1, k2, k3⟩ := vx_keep h0 e1 hS hAX hf hL hF
    obtain ⟨t2, a1, b1⟩ := kx E ce q u t T'.heap (locs ++ L) e1.symm (by rw [← e2]; exact X'.warmed.alike) hp hb k1 k2 k3 (by rw [e1]; exact hce) hcv hcl T' rfl X'
    exact ⟨t2, st.trans a1, b1⟩
/-- caught by the row x of this method's table; the rows ahead don't take it -/
theorem vx_catch {own name : String} {E : String} {ce : Cell} {q : Addr} (hown : s.vm.findClass own = some m.cls) (pre : List ExceptionTableEntry) (x : ExceptionTableEntry) (suf : List ExceptionTableEntry) (hsplit : c.exceptionTable.toList = pre ++ x :: suf)
    (hpass : ∀ z ∈ pre, covers z pc = false ∨ (z.catchType ≠ 0 ∧ ∃ nm : String, (Cond.classLink own z.catchType nm).before args s = true ∧ va_Nc E nm s)) (hx : covers x pc = true) (h0 : x.catchType ≠ 0)
    (hlink : (Cond.classLink own x.catchType name).before args s = true) (hcast : (Cond.castable E name).before args s = true) (hcell : H[q]? = some ce) (hv : ce.vm = .none) (hcl : s.vm.findClass E = some ce.cls)
    (kk : W p l e R s m args below meth c H locs cells slots Q (F0 m x.handlerPc ls [.ref q])) : vx_W p l e R s m args below meth c H locs cells slots Q (F0 m pc ls rest) q := by
  intro T hT X
  have hpl : e.platform.magicAccessors = ({} : Platform).magicAccessors := by rw [X.admits.platform]
  obtain ⟨c3, c4, hc3, hc4, hasg⟩ := Cond.castable_spec hcast
  cases Option.some.inj (hc3.symm.trans hcl)
  obtain ⟨c5, hc5, hcl5⟩ := Cond.classLink_spec hown hlink e.platform hpl
  cases Option.some.inj (hc4.symm.trans hc5)
  obtain ⟨vm', X', st⟩ := X.thenCaughtThrough q (g := F0 m pc ls rest) rfl (Steps.refl _) (by rw [hT]; exact hcell) (by rw [hv]; rfl) (by obtain ⟨k9, h9, -⟩ := Vm.findClass_spec hcl; exact ⟨k9, h9⟩) pre x suf hsplit
    (fun z hz => by
      rcases hpass z hz with h | ⟨hz0, nm, hl1, hn1⟩
      · exact Or.inl h
      · obtain ⟨c6, hc6, hcl6⟩ := Cond.classLink_spec hown hl1 e.platform hpl
        obtain ⟨a8, b8, h1, h2, h3⟩ := hn1
        cases Option.some.inj (h1.symm.trans hcl)
        cases Option.some.inj (h2.symm.trans hc6)
        exact Or.inr ⟨hz0, _, hcl6, h3⟩) hx (Or.inr ⟨h0, c4, hcl5, hasg⟩)
  obtain ⟨t, a1, b1⟩ := kk (T.setVm vm') hT X'
  exact ⟨t, st.trans a1, b1⟩
end Rows
section Ends
variable {p : Program} {l : Launch} {e : Env} {R : Room} {s : State} {m : MethodId} {args : Array Value} {below : List Frame} {meth : Method} {c : Code} {H : Heap} {locs : List Loc} {cells slots : Nat} {Q : State → Prop}
variable {mc ms : Nat} {free : Addr → Prop} {A0 A1 : Nat → Prop} {H0 : Heap} {a : Array Value} {ls : Array Slot} {st0 rest : List Value}
variable {Qc : Array Value → State → Outcome → State → Prop} {XC : String → State → State → Prop}
/-- what a body that may throw owes at its end -/
def vx_MQ (below : List Frame) (Qc : Array Value → State → Outcome → State → Prop) (XC : String → State → State → Prop) (a : Array Value) (s : State) (mc ms : Nat) (free : Addr → Prop) : State → Prop := fun t =>
  ∃ o, t.status = .running ∧ Ended t below o ∧ vx_Q Qc XC mc ms free a s o t
theorem vx_ret {g : JFrame} {mc ms : Nat} (k : W p l e R s m args below meth c H locs cells slots (MQ below Qc args s mc ms free) g) : W p l e R s m args below meth c H locs cells slots (vx_MQ below Qc XC args s mc ms free) g := by
  intro T hT X
  obtain ⟨t, a1, o, b1, b2, b3, b4⟩ := k T hT X
  exact ⟨t, a1, o, b1, b2, Or.inl ⟨b3, b4⟩⟩
/-- not caught here: it goes on to the caller -/
theorem vx_widen {g : JFrame} {q : Addr} {k n : Nat} (h1 : cells ≤ k) (h2 : slots ≤ n) (kk : vx_W p l e R s m args below meth c H locs k n Q g q) : vx_W p l e R s m args below meth c H locs cells slots Q g q := fun T hT X => kk T hT (stand_widen X h1 h2)
theorem vx_out {pc : Nat} {E : String} {ce : Cell} {q : Addr} {mc ms : Nat} (hout : ∀ x ∈ c.exceptionTable.toList, covers x pc = false) (hlocks : meth.locks = false) (hcell : H[q]? = some ce) (hv : ce.vm = .none) (hcl : s.vm.findClass E = some ce.cls)
    (hx : ∀ t : State, t.heap = H → s.vm.Alike t.vm → XC E s t) (hf : ∀ z ∈ locs, free z.base) (hc : cells ≤ mc) (hs : slots ≤ ms) :
    vx_W p l e R s m args below meth c H locs cells slots (vx_MQ below Qc XC args s mc ms free) (F0 m pc ls rest) q := by
  intro T hT X
  obtain ⟨st1, hrun, hend, hW, hsm⟩ := X.leaveThrown q (g := F0 m pc ls rest) rfl rfl rfl hout hlocks
  have hcell9 : (T.setFrames (.throwing q :: below)).heap[q]? = some ce := by
    show T.heap[q]? = some ce
    rw [hT]; exact hcell
  exact ⟨_, st1, .threw q, hrun, hend, Or.inr ⟨q, rfl, E, ce, locs, hx _ hT hW.alike, hcell9, hv, hcl, hW, hsm.mono hc hs, hf⟩⟩
theorem vx_frame {U : State} {k n : Nat} (h : s.sameButNew ({ U with vm := s.vm } : State) locs k n) : s.heap.size ≤ U.heap.size ∧ ∀ q : Nat, q < s.heap.size → (∀ z ∈ locs, z.base ≠ q) → U.heap[q]? = s.heap[q]? := by
  obtain ⟨-, h2, -, -, -, h6⟩ := h
  refine ⟨h2, fun q hq hz => ?_⟩
  obtain ⟨c9, e1, e2, e3, e4⟩ := h6 q _ (Array.getElem?_eq_getElem hq)
  have hs : c9.slots = (s.heap[q]).slots := Array.ext_getElem? fun i => e4 i fun hm => hz _ hm rfl
  have h9 : c9 = s.heap[q] := by
    rw [hs] at e2
    exact e2
  have e5 : U.heap[q]? = some c9 := e1
  rw [e5, h9, Array.getElem?_eq_getElem hq]
/-- the words of a throw but the four that speak of the heap -/
def vx_no (w : Cond) : Bool := decide (w ≠ .isRef (.static Bundle.tN "UNASSIGNED_STACK" Bundle.steD)) && decide (w ≠ .isRef (.static Bundle.tN "SUPPRESSED_SENTINEL" Bundle.listD)) && decide (w ≠ .laysStatic Bundle.tN "UNASSIGNED_STACK" Bundle.steD) && decide (w ≠ .laysStatic Bundle.tN "SUPPRESSED_SENTINEL" Bundle.listD)
def vx_at0 (own : String) (ic : Nat) (X : String) (names : List String) : List Cond := (Bundle.ownAtoms0 own ic X names).filter vx_no
def vx_atS (own : String) (ic : Nat) (X : String) (names : List String) : List Cond := (Bundle.ownAtoms own ic X names).filter vx_no
/-- a word that the tables alone decide, or a good one -/
def vx_ot (w : Cond) : Bool := w.onTables || goodWord w
theorem vx_ot_at {args a' : Array Value} {s U : State} {w : Cond} (hW : s.WarmedH U.vm) (hvm : s.vm = U.vm) (hg : vx_ot w = true) (h : w.before args s = true) : w.before a' U = true := by
  simp only [vx_ot, Bool.or_eq_true] at hg
  rcases hg with hg | hg
  · exact va_tabs hg hvm h
  · exact word_at hW (good_of_word hg) h
/-- a list's words: the good ones out of the method's own list, the others by premises of their own -/
theorem vx_hat {args : Array Value} {s : State} {L B : List Cond} (h1 : ∀ w ∈ L.filter goodWord, w.before args s = true) (h2 : ∀ w ∈ L.filter (fun w => !goodWord w), w ∈ B) (h3 : ∀ w ∈ B, w.before args s = true) : ∀ w ∈ L, w.before args s = true := by
  intro w hw
  by_cases g : goodWord w = true
  · exact h1 w (List.mem_filter.mpr ⟨hw, g⟩)
  · refine h3 w (h2 w (List.mem_filter.mpr ⟨hw, ?_⟩))
    show (!goodWord w) = true
    cases hgw : goodWord w
    · rfl
    · exact absurd hgw g
theorem vx_c {args : Array Value} {s : State} {w : Cond} {B : List Cond} (h : w.before args s = true) (t : ∀ w ∈ B, w.before args s = true) : ∀ w' ∈ w :: B, w'.before args s = true := fun w' h' => (List.mem_cons.mp h').elim (fun e => by rw [e]; exact h) (t w')
theorem vx_n {args : Array Value} {s : State} : ∀ w ∈ ([] : List Cond), w.before args s = true := fun _ h => nomatch h
theorem vx_own {args : Array Value} {s : State} {L : List Cond} (h1 : ∀ w ∈ L.filter vx_no, w.before args s = true)
    (hU : (Cond.isRef (.static Bundle.tN "UNASSIGNED_STACK" Bundle.steD)).before args s = true) (hN : (Cond.isRef (.static Bundle.tN "SUPPRESSED_SENTINEL" Bundle.listD)).before args s = true)
    (lU : (Cond.laysStatic Bundle.tN "UNASSIGNED_STACK" Bundle.steD).before args s = true) (lN : (Cond.laysStatic Bundle.tN "SUPPRESSED_SENTINEL" Bundle.listD).before args s = true) : ∀ w ∈ L, w.before args s = true := by
  intro w hw
  by_cases e1 : w = .isRef (.static Bundle.tN "UNASSIGNED_STACK" Bundle.steD)
  · rw [e1]; exact hU
  · by_cases e2 : w = .isRef (.static Bundle.tN "SUPPRESSED_SENTINEL" Bundle.listD)
    · rw [e2]; exact hN
    · by_cases e3 : w = .laysStatic Bundle.tN "UNASSIGNED_STACK" Bundle.steD
      · rw [e3]; exact lU
      · by_cases e4 : w = .laysStatic Bundle.tN "SUPPRESSED_SENTINEL" Bundle.listD
        · rw [e4]; exact lN
        · exact h1 w (List.mem_filter.mpr ⟨hw, by unfold vx_no; rw [decide_eq_true e1, decide_eq_true e2, decide_eq_true e3, decide_eq_true e4]; rfl⟩)
/-- where a static field lies, its class's statics cell in H -/
def vx_L (C n d : String) (A : Nat → Prop) (U : State) (H : Heap) : Prop := ∃ (c : ClassId) (k : Class) (i : Nat) (f : Field) (a : Nat) (cell : Cell), U.vm.findClass C = some c ∧ U.fieldFound? C n d = some (c, k, i, f) ∧ f.isStatic = true ∧ k.statics = some a ∧ H[a]? = some cell ∧ cell.vm.isStatics = true ∧ cell.cls = c ∧ f.slot < cell.slots.size ∧ k.staticTypes[f.slot]? = some f.type ∧ ¬ A a
theorem vx_L.moved {C n d : String} {A : Nat → Prop} {u U : State} {H : Heap} (hvm : u.vm.Alike U.vm) (h : vx_L C n d A u H) : vx_L C n d A U H := by
  obtain ⟨c, k, i, f, a, cell, h1, h2, h3, h4, h5, h6, h7, h8, h9, h10⟩ := h
  obtain ⟨k', hi', he⟩ := State.fieldFound?_setVm hvm h2
  exact ⟨c, k', i, f, a, cell, by rw [hvm.findClass]; exact h1, hi', h3, by rw [he]; exact h4, h5, h6, h7, h8, by rw [he]; exact h9, h10⟩
theorem vx_L.kept {C n d : String} {A : Nat → Prop} {U : State} {H H1 : Heap} (h : vx_L C n d A U H) (hq : ∀ a : Nat, a < H.size → ¬ A a → H1[a]? = H[a]?) : vx_L C n d A U H1 := by
  obtain ⟨c, k, i, f, a, cell, h1, h2, h3, h4, h5, h6, h7, h8, h9, h10⟩ := h
  exact ⟨c, k, i, f, a, cell, h1, h2, h3, h4, by rw [hq a (Array.getElem?_eq_some_iff.mp h5).1 h10]; exact h5, h6, h7, h8, h9, h10⟩
theorem vx_L.narrow {C n d : String} {A B : Nat → Prop} {U : State} {H : Heap} (h : vx_L C n d A U H) (hAB : ∀ q, B q → A q) : vx_L C n d B U H := by
  obtain ⟨c, k, i, f, a, cell, h1, h2, h3, h4, h5, h6, h7, h8, h9, h10⟩ := h
  exact ⟨c, k, i, f, a, cell, h1, h2, h3, h4, h5, h6, h7, h8, h9, fun z => h10 (hAB _ z)⟩
theorem vx_L.word {C n d : String} {A : Nat → Prop} {s : State} {args : Array Value} (h : vx_L C n d A s s.heap) : (Cond.laysStatic C n d).before args s = true := by
  obtain ⟨c, k, i, f, a, cell, h1, h2, h3, h4, h5, h6, h7, h8, h9, -⟩ := h
  show (Cond.laysStatic C n d).holds args s none s [] = true
  exact Cond.laysStatic_of h1 h2 h3 h4 h5 h6 h7 h8 h9
/-- .. and what it holds: null or some reference -/
def vx_Zq (C n d : String) (A : Nat → Prop) (U : State) (H : Heap) : Prop := va_Zq C n d A U H ∧ vx_L C n d A U H
theorem vx_Zq.moved {C n d : String} {A : Nat → Prop} {u U : State} {H : Heap} (hvm : u.vm.Alike U.vm) (h : vx_Zq C n d A u H) : vx_Zq C n d A U H := ⟨va_Zq.moved hvm h.1, vx_L.moved hvm h.2⟩
theorem vx_Zq.kept {C n d : String} {A : Nat → Prop} {U : State} {H H1 : Heap} (h : vx_Zq C n d A U H) (hq : ∀ a : Nat, a < H.size → ¬ A a → H1[a]? = H[a]?) : vx_Zq C n d A U H1 := ⟨va_Zq.kept h.1 hq, vx_L.kept h.2 hq⟩
theorem vx_Zq.narrow {C n d : String} {A B : Nat → Prop} {U : State} {H : Heap} (h : vx_Zq C n d A U H) (hAB : ∀ q, B q → A q) : vx_Zq C n d B U H := ⟨va_Zq.narrow h.1 hAB, vx_L.narrow h.2 hAB⟩
theorem vx_Zqof {args : Array Value} {s : State} {C n d : String} {A : Nat → Prop} (hl : (Cond.laysStatic C n d).before args s = true) (hini : (Cond.initialized C).before args s = true) (h : (Cond.isRef (.static C n d)).before args s = true) (hA : ∀ a : Nat, a < s.heap.size → ¬ A a) : vx_Zq C n d A s s.heap := by
  refine ⟨va_Zqof hl hini h hA, ?_⟩
  obtain ⟨c, k, i, f, a, cell, h1, h2, h3, h4, h5, h6, h7, h8, h9⟩ := Cond.laysStatic_spec hl
  exact ⟨c, k, i, f, a, cell, h1, h2, h3, h4, h5, h6, h7, h8, h9, hA a (Array.getElem?_eq_some_iff.mp h5).1⟩
theorem vx_isRef {C n d : String} {v : Value} {A : Nat → Prop} {s : State} {args : Array Value} (h : va_Z C n d v A s s.heap) (hv : v.isRef = true) : (Cond.isRef (.static C n d)).before args s = true := by
  obtain ⟨cf, kf, fi, f, a, cell, h1, h2, h3, h4, h5, h6, h7, -⟩ := h
  have he : (Term.static C n d).eval args s none [] s = some v := by
    simp [Term.eval, State.fieldNamed?, h1, h2, h4, h5, h6, h7]
  simp only [Cond.before, Cond.holds, Cond.value, he]
  cases v <;> simp_all [Value.isRef]
theorem vx_isRefq {C n d : String} {A : Nat → Prop} {s : State} {args : Array Value} (h : va_Zq C n d A s s.heap) : (Cond.isRef (.static C n d)).before args s = true := by
  rcases h with h | ⟨t, h⟩
  · exact vx_isRef h rfl
  · exact vx_isRef h rfl
/-- the same frame, seen from here: as if the method were called anew in this heap -/
theorem vx_rebase {T : State} (X : Stand p l e R s m args below meth c T locs cells slots) {R' : Room} (hf : R'.frames ≤ R.frames) (hl : R'.locals ≤ R.locals) (hc : cells + R'.cells ≤ R.cells) (hs : slots + R'.slots ≤ R.slots) :
    Stand p l e R' ((T.setVm s.vm).setFrames (.invoking m args :: below)) m args below meth c T [] 0 0 := by
  have htop : (T.setVm s.vm).topJava?.isSome := X.here.top
  have hF : ((T.setVm s.vm).setFrames (.invoking m args :: below)).frames = .invoking m args :: below := State.frames_setFrames _ (State.cur_lt_of_top htop)
  obtain ⟨g₀, hg0⟩ := Option.isSome_iff_exists.mp htop
  obtain ⟨r, hr⟩ := State.topJava?_eq_some.mp hg0
  have hl9 : e.platform.stackLimits (T.setVm s.vm).me = e.platform.stackLimits s.me := X.limits
  have hb9 : (T.setVm s.vm).me.stackBytes = s.me.stackBytes := X.bytes
  refine ⟨X.admits, X.cas, X.clock, hF, ?_, X.hears, X.method, X.code, X.here, X.tail, X.warmed, ?_, ?_, ?_⟩
  · have h := X.room
    have hU : ((T.setVm s.vm).setFrames (.invoking m args :: below)).localsInUse = s.localsInUse := by
      rw [State.localsInUse_invoking hF (meth := meth) (c := c) X.method X.code, State.localsInUse_invoking X.frames X.method X.code]
    simp only [State.hasRoom, Bool.and_eq_true, decide_eq_true_eq] at h ⊢
    obtain ⟨⟨⟨⟨h1, h2, h3, h4, h5, h6⟩, h7⟩, h8⟩, h9⟩ := h
    rw [X.frames, List.length_cons] at h2 h3
    have q1 := X.heapSize
    have q2 := X.used
    simp only [hF, hU, List.length_cons, State.stackLimits_setFrames, State.stackBytes_setFrames, hl9, hb9]
    refine ⟨⟨⟨⟨by omega, by omega, by omega, by omega, by omega, h6⟩, ?_⟩, ?_⟩, X.book⟩
    · show T.heap.size + R'.cells ≤ e.platform.maxCells
      omega
    · show T.slotsUsed + R'.slots ≤ e.platform.maxSlots
      omega
  · rw [State.stackLimits_setFrames]; rfl
  · rw [State.stackBytes_setFrames]; rfl
  · refine ⟨?_, Nat.le_refl _, Nat.le_refl _, ?_, ?_, fun a c9 h9 => ⟨c9, h9, rfl, rfl, fun _ _ => rfl⟩⟩
    · obtain ⟨t, ht, -⟩ := State.frames_cons hr
      show T.setVm s.vm = { ((T.setVm s.vm).setFrames (.invoking m args :: below)).setFrames (T.setVm s.vm).frames with heap := T.heap, slotsUsed := T.slotsUsed }
      rw [State.setFrames_setFrames, State.setFrames_self ht]
      rfl
    · show T.slotsUsed = T.slotsUsed + ((T.heap.toList.drop T.heap.size).map (·.slots.size)).sum
      rw [List.drop_eq_nil_of_le (Nat.le_of_eq Array.length_toList)]
      rfl
    · show ((T.heap.toList.drop T.heap.size).map (·.slots.size)).sum ≤ 0
      rw [List.drop_eq_nil_of_le (Nat.le_of_eq Array.length_toList)]
      exact Nat.le_refl _
/-- 'throw new E()': new; dup; invokespecial; athrow -/
theorem vx_throw0 {cc : ByteArray} {pc : Nat} (hexec : p.tables.exec = Jvm.exec) (hb : c.code = cc) (hl : l.stackTraces = false) {own cls : String} {names : List String} {ik ic mc ms : Nat} {A : Nat → Prop}
    (hown : s.vm.findClass own = some m.cls) (hcls : Bundle.fit cls = true) (hnames : ∀ n ∈ names, Bundle.fit n = true)
    (hk : (Cond.classLink own ik cls).before args s = true) (hini : (Cond.initialized cls).before args s = true) (hat : ∀ w ∈ vx_at0 own ic cls names, w.before args s = true)
    (hgood : ∀ w ∈ Cond.classLink own ik cls :: Cond.initialized cls :: vx_at0 own ic cls names, vx_ot w = true)
    (hU : vx_Zq Bundle.tN "UNASSIGNED_STACK" Bundle.steD A s s.heap) (hN : vx_Zq Bundle.tN "SUPPRESSED_SENTINEL" Bundle.listD A s s.heap) (hS : va_S A s.heap H locs) (hsize : ls.size = c.maxLocals)
    (d0 : decode cc pc = .ok (.new ik, 3)) (d3 : decode cc (pc + 3) = .ok (.dup, 1)) (d4 : decode cc (pc + 4) = .ok (.invokespecial ic, 3)) (d7 : decode cc (pc + 7) = .ok (.athrow, 1))
    (hout : ∀ x ∈ c.exceptionTable.toList, covers x (pc + 7) = false)
    (hRframes : names.length + 3 < R.frames) (hRlocals : (rest.map fun v => v.category).sum + (13 * (names.length + 1) + 42) ≤ R.locals) (hRcells : cells + 1 ≤ R.cells) (hRslots : slots + 6 ≤ R.slots) (hlocks : meth.locks = false)
    (hx : ∀ t : State, s.vm.Alike t.vm → H.size ≤ t.heap.size → (∀ q : Nat, q < H.size → t.heap[q]? = H[q]?) → XC cls s t)
    (hf : ∀ z ∈ locs, free z.base) (hc : cells + 1 ≤ mc) (hs : slots + 6 ≤ ms) :
    W p l e R s m args below meth c H locs cells slots (vx_MQ below Qc XC args s mc ms free) (F0 m pc ls rest) := by
  intro T hT X
  have htr : e.platform.stackTraces = false := (show e.platform.stackTraces = l.stackTraces by rw [X.admits.platform]).trans hl
  have Y := vx_rebase X (R' := { frames := R.frames, locals := R.locals, cells := 1, slots := 6 }) (Nat.le_refl _) (Nat.le_refl _) hRcells hRslots
  obtain ⟨s', hA⟩ : ∃ z, z = (T.setVm s.vm).setFrames (.invoking m args :: below) := ⟨_, rfl⟩
  rw [← hA] at Y
  have hvm : s'.vm = s.vm := by rw [hA]; rfl
  have hhp : s'.heap = H := by rw [hA]; exact hT
  have hW0 : s.WarmedH s'.vm := by rw [hvm]; exact State.WarmedH.refl s
  have hat' : ∀ w ∈ vx_at0 own ic cls names, w.before args s' = true := fun w hw => vx_ot_at hW0 hvm.symm (hgood w (List.mem_cons_of_mem _ (List.mem_cons_of_mem _ hw))) (hat w hw)
  have hk' : (Cond.classLink own ik cls).before args s' = true := vx_ot_at hW0 hvm.symm (hgood _ List.mem_cons_self) hk
  have hini' : (Cond.initialized cls).before args s' = true := vx_ot_at hW0 hvm.symm (hgood _ (List.mem_cons_of_mem _ List.mem_cons_self)) hini
  have hU' : vx_Zq Bundle.tN "UNASSIGNED_STACK" Bundle.steD A s' s'.heap := by rw [hhp]; exact vx_Zq.moved hW0.alike (hU.kept hS.2.1)
  have hN' : vx_Zq Bundle.tN "SUPPRESSED_SENTINEL" Bundle.listD A s' s'.heap := by rw [hhp]; exact vx_Zq.moved hW0.alike (hN.kept hS.2.1)
  have h : ∀ w ∈ Bundle.ownAtoms0 own ic cls names, w.before args s' = true := vx_own hat' (vx_isRefq hU'.1) (vx_isRefq hN'.1) hU'.2.word hN'.2.word
  have hown' : s'.vm.findClass own = some m.cls := by rw [hvm]; exact hown
  have hins : (Cond.instantiable cls 6).before args s' = true := h _ (by simp [Bundle.ownAtoms0])
  obtain ⟨vm₁, cX, kX, hfX, hkX, -, -, X₁, st1⟩ := Y.newCold hexec (own := own) (C := cls) (index := ik) (n := 6) hown' hk' hins hini'
    (g := F0 m pc ls rest) rfl (by rw [hb]; exact d0) (Nat.le_refl _) (Nat.le_refl _)
  generalize hT1 : (T.setVm vm₁).pushCell { cls := cX, slots := kX.instanceTypes.map defaultValue, vm := .none } = T1 at X₁ st1
  have hcat : (Value.ref T.heap.size).category = 1 := rfl
  have hcellA : T1.heap[T.heap.size]? = some (freshCell cX kX) := by rw [← hT1]; exact State.heap_pushCell_size _ _
  have d3' : decode c.code (pc + 3) = .ok (.dup, 1) := by rw [hb]; exact d3
  obtain ⟨U, hsteps, hrun, hend, hW, hsame, ce, hce, hO⟩ := X₁.ctorThrow0 hexec htr (own := own) (cls := cls) (names := names) (ic := ic) hown' hcls hnames h (fun x hx => nomatch hx) hfX hkX hcellA (by rw [hhp, hT]; exact Nat.le_refl _)
    (g := { method := m, pc := pc + 4, locals := ls, stack := .ref T.heap.size :: .ref T.heap.size :: rest, locked := none }) rfl hsize rfl rfl (rest := rest) rfl
    (by rw [hb]; exact d4) (by rw [hb]; exact d7) hout hRframes (by simp only [List.map_cons, List.sum_cons, hcat]; omega) hlocks
  obtain ⟨f1, f2⟩ := vx_frame hsame
  rw [hhp] at f1 f2
  have hWs : s.WarmedH U.vm := State.WarmedH.trans hW0 hW
  have hcl : s.vm.findClass cls = some ce.cls := by
    have h9 := hO.cls
    rw [hvm] at h9
    exact h9
  have hall : s.sameButNew ({ U with vm := s.vm } : State) locs mc ms := by
    subst hA
    obtain ⟨e1, e2⟩ := hsame
    rw [State.setFrames_setFrames] at e1
    have h2 : (T.setVm s.vm).sameButNew ({ U with vm := s.vm } : State) [] (0 + 1) (0 + 6) := ⟨e1, e2⟩
    have h3 := X.same.trans h2
    rw [List.append_nil] at h3
    exact h3.mono hc hs
  refine ⟨U, ?_, .threw T.heap.size, hrun, hend, Or.inr ⟨T.heap.size, rfl, cls, ce, locs, hx U hWs.alike f1 (fun q hq => f2 q hq (fun z hz => nomatch hz)), hce, hO.vm, hcl, hWs, hall, hf⟩⟩
  refine st1 _ ?_
  show Steps p.tables e below (T1.setTop { method := m, pc := pc + 3, locals := ls, stack := .ref T.heap.size :: rest, locked := none }) _
  jvm_step X₁.here [X₁.here.top, hexec, d3', Value.category]
  exact hsteps
/-- 'throw new E("text")': new; dup; ldc; invokespecial; athrow -/
theorem vx_throwS {cc : ByteArray} {pc : Nat} (hexec : p.tables.exec = Jvm.exec) (hb : c.code = cc) (hl : l.stackTraces = false) {own cls text : String} {names : List String} {ik is ic mc ms sa : Nat} {A : Nat → Prop}
    (hown : s.vm.findClass own = some m.cls) (hcls : Bundle.fit cls = true) (hnames : ∀ n ∈ names, Bundle.fit n = true)
    (hk : (Cond.classLink own ik cls).before args s = true) (hini : (Cond.initialized cls).before args s = true) (hstr : vk_R own is text sa s) (hat : ∀ w ∈ vx_atS own ic cls names, w.before args s = true)
    (hgood : ∀ w ∈ Cond.classLink own ik cls :: Cond.initialized cls :: vx_atS own ic cls names, vx_ot w = true)
    (hU : vx_Zq Bundle.tN "UNASSIGNED_STACK" Bundle.steD A s s.heap) (hN : vx_Zq Bundle.tN "SUPPRESSED_SENTINEL" Bundle.listD A s s.heap) (hS : va_S A s.heap H locs) (hsize : ls.size = c.maxLocals)
    (d0 : decode cc pc = .ok (.new ik, 3)) (d3 : decode cc (pc + 3) = .ok (.dup, 1)) (d4 : decode cc (pc + 4) = .ok (.ldc is, 2)) (d6 : decode cc (pc + 6) = .ok (.invokespecial ic, 3)) (d9 : decode cc (pc + 9) = .ok (.athrow, 1))
    (hout : ∀ x ∈ c.exceptionTable.toList, covers x (pc + 9) = false)
    (hRframes : names.length + 3 < R.frames) (hRlocals : (rest.map fun v => v.category).sum + (13 * (names.length + 1) + 43) ≤ R.locals) (hRcells : cells + 1 ≤ R.cells) (hRslots : slots + 6 ≤ R.slots) (hlocks : meth.locks = false)
    (hx : ∀ t : State, s.vm.Alike t.vm → H.size ≤ t.heap.size → (∀ q : Nat, q < H.size → t.heap[q]? = H[q]?) → XC cls s t)
    (hf : ∀ z ∈ locs, free z.base) (hc : cells + 1 ≤ mc) (hs : slots + 6 ≤ ms) :
    W p l e R s m args below meth c H locs cells slots (vx_MQ below Qc XC args s mc ms free) (F0 m pc ls rest) := by
  intro T hT X
  have htr : e.platform.stackTraces = false := (show e.platform.stackTraces = l.stackTraces by rw [X.admits.platform]).trans hl
  have Y := vx_rebase X (R' := { frames := R.frames, locals := R.locals, cells := 1, slots := 6 }) (Nat.le_refl _) (Nat.le_refl _) hRcells hRslots
  obtain ⟨s', hA⟩ : ∃ z, z = (T.setVm s.vm).setFrames (.invoking m args :: below) := ⟨_, rfl⟩
  rw [← hA] at Y
  have hvm : s'.vm = s.vm := by rw [hA]; rfl
  have hhp : s'.heap = H := by rw [hA]; exact hT
  have hW0 : s.WarmedH s'.vm := by rw [hvm]; exact State.WarmedH.refl s
  have hat' : ∀ w ∈ vx_atS own ic cls names, w.before args s' = true := fun w hw => vx_ot_at hW0 hvm.symm (hgood w (List.mem_cons_of_mem _ (List.mem_cons_of_mem _ hw))) (hat w hw)
  have hk' : (Cond.classLink own ik cls).before args s' = true := vx_ot_at hW0 hvm.symm (hgood _ List.mem_cons_self) hk
  have hini' : (Cond.initialized cls).before args s' = true := vx_ot_at hW0 hvm.symm (hgood _ (List.mem_cons_of_mem _ List.mem_cons_self)) hini
  have hU' : vx_Zq Bundle.tN "UNASSIGNED_STACK" Bundle.steD A s' s'.heap := by rw [hhp]; exact vx_Zq.moved hW0.alike (hU.kept hS.2.1)
  have hN' : vx_Zq Bundle.tN "SUPPRESSED_SENTINEL" Bundle.listD A s' s'.heap := by rw [hhp]; exact vx_Zq.moved hW0.alike (hN.kept hS.2.1)
  have h : ∀ w ∈ Bundle.ownAtoms own ic cls names, w.before args s' = true := vx_own hat' (vx_isRefq hU'.1) (vx_isRefq hN'.1) hU'.2.word hN'.2.word
  have hown' : s'.vm.findClass own = some m.cls := by rw [hvm]; exact hown
  have hins : (Cond.instantiable cls 6).before args s' = true := h _ (by simp [Bundle.ownAtoms])
  obtain ⟨vm₁, cX, kX, hfX, hkX, -, -, X₁, st1⟩ := Y.newCold hexec (own := own) (C := cls) (index := ik) (n := 6) hown' hk' hins hini'
    (g := F0 m pc ls rest) rfl (by rw [hb]; exact d0) (Nat.le_refl _) (Nat.le_refl _)
  generalize hT1 : (T.setVm vm₁).pushCell { cls := cX, slots := kX.instanceTypes.map defaultValue, vm := .none } = T1 at X₁ st1
  have hcat : (Value.ref T.heap.size).category = 1 := rfl
  have hcellA : T1.heap[T.heap.size]? = some (freshCell cX kX) := by rw [← hT1]; exact State.heap_pushCell_size _ _
  have d3' : decode c.code (pc + 3) = .ok (.dup, 1) := by rw [hb]; exact d3
  have d4' : decode c.code (pc + 4) = .ok (.ldc is, 2) := by rw [hb]; exact d4
  have hstr' : vk_R own is text sa s' := vk_R.warm hW0 hstr
  obtain ⟨U, hsteps, hrun, hend, hW, hsame, ce, hce, hO⟩ := X₁.ctorThrowS hexec htr (own := own) (cls := cls) (names := names) (ic := ic) hown' hcls hnames h (fun x hx => nomatch hx) hfX hkX hcellA (by rw [hhp, hT]; exact Nat.le_refl _) (msg := .ref sa) rfl
    (g := { method := m, pc := pc + 6, locals := ls, stack := .ref sa :: .ref T.heap.size :: .ref T.heap.size :: rest, locked := none }) rfl hsize rfl rfl (rest := rest) rfl
    (by rw [hb]; exact d6) (by rw [hb]; exact d9) hout hRframes (by simp only [List.map_cons, List.sum_cons, hcat]; omega) hlocks
  obtain ⟨f1, f2⟩ := vx_frame hsame
  rw [hhp] at f1 f2
  have hWs : s.WarmedH U.vm := State.WarmedH.trans hW0 hW
  have hcl : s.vm.findClass cls = some ce.cls := by
    have h9 := hO.cls
    rw [hvm] at h9
    exact h9
  have hall : s.sameButNew ({ U with vm := s.vm } : State) locs mc ms := by
    subst hA
    obtain ⟨e1, e2⟩ := hsame
    rw [State.setFrames_setFrames] at e1
    have h2 : (T.setVm s.vm).sameButNew ({ U with vm := s.vm } : State) [] (0 + 1) (0 + 6) := ⟨e1, e2⟩
    have h3 := X.same.trans h2
    rw [List.append_nil] at h3
    exact h3.mono hc hs
  refine ⟨U, ?_, .threw T.heap.size, hrun, hend, Or.inr ⟨T.heap.size, rfl, cls, ce, locs, hx U hWs.alike f1 (fun q hq => f2 q hq (fun z hz => nomatch hz)), hce, hO.vm, hcl, hWs, hall, hf⟩⟩
  refine st1 _ ?_
  show Steps p.tables e below (T1.setTop { method := m, pc := pc + 3, locals := ls, stack := .ref T.heap.size :: rest, locked := none }) _
  jvm_step X₁.here [X₁.here.top, hexec, d3', Value.category]
  exact X₁.ldcString hexec (own := own) (text := text) (index := is) (a := sa) hown' hstr'.1 hstr'.2
    (g := { method := m, pc := pc + 4, locals := ls, stack := .ref T.heap.size :: .ref T.heap.size :: rest, locked := none }) rfl d4' _ hsteps
/-- 'throw new E("text")', the text by a wide index -/
theorem vx_throwSW {cc : ByteArray} {pc : Nat} (hexec : p.tables.exec = Jvm.exec) (hb : c.code = cc) (hl : l.stackTraces = false) {own cls text : String} {names : List String} {ik is ic mc ms sa : Nat} {A : Nat → Prop}
    (hown : s.vm.findClass own = some m.cls) (hcls : Bundle.fit cls = true) (hnames : ∀ n ∈ names, Bundle.fit n = true)
    (hk : (Cond.classLink own ik cls).before args s = true) (hini : (Cond.initialized cls).before args s = true) (hstr : vk_R own is text sa s) (hat : ∀ w ∈ vx_atS own ic cls names, w.before args s = true)
    (hgood : ∀ w ∈ Cond.classLink own ik cls :: Cond.initialized cls :: vx_atS own ic cls names, vx_ot w = true)
    (hU : vx_Zq Bundle.tN "UNASSIGNED_STACK" Bundle.steD A s s.heap) (hN : vx_Zq Bundle.tN "SUPPRESSED_SENTINEL" Bundle.listD A s s.heap) (hS : va_S A s.heap H locs) (hsize : ls.size = c.maxLocals)
    (d0 : decode cc pc = .ok (.new ik, 3)) (d3 : decode cc (pc + 3) = .ok (.dup, 1)) (d4 : decode cc (pc + 4) = .ok (.ldc_w is, 3)) (d7 : decode cc (pc + 7) = .ok (.invokespecial ic, 3)) (d10 : decode cc (pc + 10) = .ok (.athrow, 1))
    (hout : ∀ x ∈ c.exceptionTable.toList, covers x (pc + 10) = false)
    (hRframes : names.length + 3 < R.frames) (hRlocals : (rest.map fun v => v.category).sum + (13 * (names.length + 1) + 43) ≤ R.locals) (hRcells : cells + 1 ≤ R.cells) (hRslots : slots + 6 ≤ R.slots) (hlocks : meth.locks = false)
    (hx : ∀ t : State, s.vm.Alike t.vm → H.size ≤ t.heap.size → (∀ q : Nat, q < H.size → t.heap[q]? = H[q]?) → XC cls s t)
    (hf : ∀ z ∈ locs, free z.base) (hc : cells + 1 ≤ mc) (hs : slots + 6 ≤ ms) :
    W p l e R s m args below meth c H locs cells slots (vx_MQ below Qc XC args s mc ms free) (F0 m pc ls rest) := by
  intro T hT X
  have htr : e.platform.stackTraces = false := (show e.platform.stackTraces = l.stackTraces by rw [X.admits.platform]).trans hl
  have Y := vx_rebase X (R' := { frames := R.frames, locals := R.locals, cells := 1, slots := 6 }) (Nat.le_refl _) (Nat.le_refl _) hRcells hRslots
  obtain ⟨s', hA⟩ : ∃ z, z = (T.setVm s.vm).setFrames (.invoking m args :: below) := ⟨_, rfl⟩
  rw [← hA] at Y
  have hvm : s'.vm = s.vm := by rw [hA]; rfl
  have hhp : s'.heap = H := by rw [hA]; exact hT
  have hW0 : s.WarmedH s'.vm := by rw [hvm]; exact State.WarmedH.refl s
  have hat' : ∀ w ∈ vx_atS own ic cls names, w.before args s' = true := fun w hw => vx_ot_at hW0 hvm.symm (hgood w (List.mem_cons_of_mem _ (List.mem_cons_of_mem _ hw))) (hat w hw)
  have hk' : (Cond.classLink own ik cls).before args s' = true := vx_ot_at hW0 hvm.symm (hgood _ List.mem_cons_self) hk
  have hini' : (Cond.initialized cls).before args s' = true := vx_ot_at hW0 hvm.symm (hgood _ (List.mem_cons_of_mem _ List.mem_cons_self)) hini
  have hU' : vx_Zq Bundle.tN "UNASSIGNED_STACK" Bundle.steD A s' s'.heap := by rw [hhp]; exact vx_Zq.moved hW0.alike (hU.kept hS.2.1)
  have hN' : vx_Zq Bundle.tN "SUPPRESSED_SENTINEL" Bundle.listD A s' s'.heap := by rw [hhp]; exact vx_Zq.moved hW0.alike (hN.kept hS.2.1)
  have h : ∀ w ∈ Bundle.ownAtoms own ic cls names, w.before args s' = true := vx_own hat' (vx_isRefq hU'.1) (vx_isRefq hN'.1) hU'.2.word hN'.2.word
  have hown' : s'.vm.findClass own = some m.cls := by rw [hvm]; exact hown
  have hins : (Cond.instantiable cls 6).before args s' = true := h _ (by simp [Bundle.ownAtoms])
  obtain ⟨vm₁, cX, kX, hfX, hkX, -, -, X₁, st1⟩ := Y.newCold hexec (own := own) (C := cls) (index := ik) (n := 6) hown' hk' hins hini'
    (g := F0 m pc ls rest) rfl (by rw [hb]; exact d0) (Nat.le_refl _) (Nat.le_refl _)
  generalize hT1 : (T.setVm vm₁).pushCell { cls := cX, slots := kX.instanceTypes.map defaultValue, vm := .none } = T1 at X₁ st1
  have hcat : (Value.ref T.heap.size).category = 1 := rfl
  have hcellA : T1.heap[T.heap.size]? = some (freshCell cX kX) := by rw [← hT1]; exact State.heap_pushCell_size _ _
  have d3' : decode c.code (pc + 3) = .ok (.dup, 1) := by rw [hb]; exact d3
  have d4' : decode c.code (pc + 4) = .ok (.ldc_w is, 3) := by rw [hb]; exact d4
  have hstr' : vk_R own is text sa s' := vk_R.warm hW0 hstr
  obtain ⟨U, hsteps, hrun, hend, hW, hsame, ce, hce, hO⟩ := X₁.ctorThrowS hexec htr (own := own) (cls := cls) (names := names) (ic := ic) hown' hcls hnames h (fun x hx => nomatch hx) hfX hkX hcellA (by rw [hhp, hT]; exact Nat.le_refl _) (msg := .ref sa) rfl
    (g := { method := m, pc := pc + 7, locals := ls, stack := .ref sa :: .ref T.heap.size :: .ref T.heap.size :: rest, locked := none }) rfl hsize rfl rfl (rest := rest) rfl
    (by rw [hb]; exact d7) (by rw [hb]; exact d10) hout hRframes (by simp only [List.map_cons, List.sum_cons, hcat]; omega) hlocks
  obtain ⟨f1, f2⟩ := vx_frame hsame
  rw [hhp] at f1 f2
  have hWs : s.WarmedH U.vm := State.WarmedH.trans hW0 hW
  have hcl : s.vm.findClass cls = some ce.cls := by
    have h9 := hO.cls
    rw [hvm] at h9
    exact h9
  have hall : s.sameButNew ({ U with vm := s.vm } : State) locs mc ms := by
    subst hA
    obtain ⟨e1, e2⟩ := hsame
    rw [State.setFrames_setFrames] at e1
    have h2 : (T.setVm s.vm).sameButNew ({ U with vm := s.vm } : State) [] (0 + 1) (0 + 6) := ⟨e1, e2⟩
    have h3 := X.same.trans h2
    rw [List.append_nil] at h3
    exact h3.mono hc hs
  refine ⟨U, ?_, .threw T.heap.size, hrun, hend, Or.inr ⟨T.heap.size, rfl, cls, ce, locs, hx U hWs.alike f1 (fun q hq => f2 q hq (fun z hz => nomatch hz)), hce, hO.vm, hcl, hWs, hall, hf⟩⟩
  refine st1 _ ?_
  show Steps p.tables e below (T1.setTop { method := m, pc := pc + 3, locals := ls, stack := .ref T.heap.size :: rest, locked := none }) _
  jvm_step X₁.here [X₁.here.top, hexec, d3', Value.category]
  exact X₁.ldcStringW hexec (own := own) (text := text) (index := is) (a := sa) hown' hstr'.1 hstr'.2
    (g := { method := m, pc := pc + 4, locals := ls, stack := .ref T.heap.size :: .ref T.heap.size :: rest, locked := none }) rfl d4' _ hsteps
end Ends
section Bodies
variable {l : Launch}
theorem vx_ofW {y : MethodName} {ws ws' : List Cond} {rm : Room} {Pc : Array Value → State → Prop} {Qc : Array Value → State → Outcome → State → Prop} {XC : String → State → State → Prop} {mc ms : Nat} {free : Addr → Prop} {cc : ByteArray} {maxL : Nat} {ret : Option FieldType}
    (hy : plainName y.cls = true) (hw : ws = Cond.code y cc maxL ret :: ws')
    (body : ∀ p e s m args below meth c s₁, BodyLoose p l y (headSpec ws rm) cc maxL ret e s m args below meth c s₁ → c.maxLocals = maxL → (∀ x ∈ c.exceptionTable.toList, False) → Pc args s →
      W p l e (headSpec ws rm).room s m args below meth c s.heap [] 0 0 (vx_MQ below Qc XC args s mc ms free) (entryFrame m args maxL)) : vx_Met l y ws rm Pc Qc XC mc ms free := by
  refine MetFree.of_bodyS (code := cc) (maxLocals := maxL) (ret := ret) hy ?_ ?_
  · intro args s m h hn
    obtain ⟨meth, c, h1, h2, h3, h4, h5, h6, -, -⟩ := Cond.code_spec hn (atoms_spec (ws := ws) h _ (by rw [hw]; exact List.mem_cons_self))
    exact ⟨meth, c, h1, h2, h3, h4, h5, h6⟩
  · intro p e s m args below meth c s₁ B hml hP _
    have hh0 : s₁.heap = s.heap := by rw [B.state]; rfl
    have ht : ∀ x ∈ c.exceptionTable.toList, False := by
      obtain ⟨meth9, c9, h1, h2, -, -, -, -, h7, -⟩ := Cond.code_spec B.named (atoms_spec (ws := ws) B.pre _ (by rw [hw]; exact List.mem_cons_self))
      cases Option.some.inj (h1.symm.trans B.method)
      cases Option.some.inj (h2.symm.trans (Stand.of_body B).code)
      intro x hx
      rw [Array.isEmpty_iff.mp h7] at hx
      cases hx
    obtain ⟨t, a1, o, b1, b2, b3⟩ := body p e s m args below meth c s₁ B hml ht hP s₁ hh0 (Stand.of_body B)
    exact ⟨t, o, a1, b1, b2, b3⟩
/-- the table of a body with handlers -/
theorem vx_table {p : Program} {x y : MethodName} {S : Spec} {cc bytes : ByteArray} {maxL maxL' : Nat} {ret ret' : Option FieldType} {e : Env} {s s₁ : State} {m : MethodId} {args : Array Value} {below : List Frame} {meth : Method} {c : Code} {hh : List (Nat × Nat × Nat × Nat)}
    (B : BodyLoose p l y S cc maxL ret e s m args below meth c s₁) (h : (Cond.codeWith y bytes maxL' ret' hh).before args s = true) : c.exceptionTable.toList = tableOf hh := by
  obtain ⟨m9, meth9, c9, hn9, h1, h2, -, -, h6, -⟩ := Cond.codeWith_spec h
  cases Option.some.inj (hn9.symm.trans B.named)
  cases Option.some.inj (h1.symm.trans B.method)
  cases Option.some.inj (h2.symm.trans (Stand.of_body B).code)
  rw [← h6, table_eq]
end Bodies
end VXA
/-! ===== END ===== -/
/-! ===== BEGIN a static call of a method with an exception table ===== -/
section VXS
variable {p : Program} {l : Launch} {e : Env} {R : Room} {s : State} {m : MethodId} {args : Array Value} {below : List Frame} {meth : Method} {c : Code} {T : State} {H : Heap} {locs : List Loc} {cells slots : Nat}
abbrev vx_CSW (R : Room) (s : State) (args : Array Value) (own : String) (index : Nat) (y : MethodName) (bytes : ByteArray) (maxL : Nat) (ret : Option FieldType) (hh : List (Nat × Nat × Nat × Nat)) (ws : List Cond) (rm : Room) (mc ms n : Nat) : Prop :=
  (rm.cells = mc ∧ rm.slots = ms ∧ rm.frames + 1 ≤ R.frames ∧ 8 + (maxL + 11) + rm.locals ≤ R.locals ∧ (∀ w ∈ ws, ∀ (a' : Array Value) (U : State), s.WarmedH U.vm → w.before a' U = true) ∧ Cond.codeWith y bytes maxL ret hh ∈ ws) ∧
  (Cond.codeWith y bytes maxL ret hh).before args s = true ∧ (Cond.initialized y.cls).before args s = true ∧ (y.cls ≠ "java/lang/invoke/MethodHandle" ∧ y.cls ≠ "java/lang/invoke/VarHandle") ∧
  (∀ sig, parseMethodDescriptor y.desc = some sig → n = sig.parameters.length) ∧ (Cond.methodLink own index y).before args s = true ∧ (Cond.static y).before args s = true
theorem vx_cwSW {own : String} {index maxL mc ms : Nat} {y : MethodName} {bytes : ByteArray} {ret : Option FieldType} {hh : List (Nat × Nat × Nat × Nat)} {Ts ws ws' : List Cond} {rm : Room} (n : Nat) (ht : ∀ w ∈ Ts, w.before args s = true) (hT : GoodIn Ts (va_wsS own index y ws)) (hw : ws = Cond.codeWith y bytes maxL ret hh :: ws') (hrc : rm.cells = mc) (hrs : rm.slots = ms)
    (hd : y.cls ≠ "java/lang/invoke/MethodHandle" ∧ y.cls ≠ "java/lang/invoke/VarHandle" ∧ (parseMethodDescriptor y.desc).map (fun d => d.parameters.length) = some n) (hR : rm.frames + 1 ≤ R.frames ∧ 8 + (maxL + 11) + rm.locals ≤ R.locals) :
    vx_CSW R s args own index y bytes maxL ret hh ws rm mc ms n := by
  have ok : ∀ w ∈ va_wsS own index y ws, w.before args s = true := fun w h => ht w (hT w h).1
  have hG : GoodIn Ts ws := fun w h => hT w (by unfold va_wsS; exact List.mem_append_right _ h)
  have hc : Cond.codeWith y bytes maxL ret hh ∈ ws := by rw [hw]; exact List.mem_cons_self
  refine ⟨⟨hrc, hrs, hR.1, hR.2, pay_in ht hG, hc⟩, ht _ (hG _ hc).1, ok _ (by simp [va_wsS]), ⟨hd.1, hd.2.1⟩, fun sig h => ?_, ok _ (by simp [va_wsS]), ok _ (by simp [va_wsS])⟩
  have h2 := hd.2.2
  rw [h] at h2
  exact (Option.some.inj h2).symm
theorem vx_callSW (X : Stand p l e R s m args below meth c T locs cells slots) (hexec : p.tables.exec = Jvm.exec) {own : String} {index : Nat} {y : MethodName} {bytes : ByteArray} {maxL : Nat} {ret : Option FieldType} {hh : List (Nat × Nat × Nat × Nat)}
    (hown : s.vm.findClass own = some m.cls) (hlink : (Cond.methodLink own index y).before args s = true) (hstat : (Cond.static y).before args s = true) (hinit : (Cond.initialized y.cls).before args s = true)
    (hcode : (Cond.codeWith y bytes maxL ret hh).before args s = true) (hy : y.cls ≠ "java/lang/invoke/MethodHandle" ∧ y.cls ≠ "java/lang/invoke/VarHandle")
    {W9 : Nat} {Pre : Pt → Array Value → Prop} {Post : Pt → Array Value → Option Value → Pt → Prop} (hK : Back l R p e below s args y 3 W9 Pre Post)
    {g : JFrame} (hg : g.method = m) (hsize : g.locals.size = c.maxLocals) {argsL rest : List Value} (hlen : ∀ sig, parseMethodDescriptor y.desc = some sig → argsL.length = sig.parameters.length)
    (hstack : g.stack = argsL.reverse ++ rest) (hW : 2 * g.monitorRoom + (rest.map fun v => v.category).sum ≤ W9) (hdg : decode c.code g.pc = .ok (.invokestatic index, 3))
    (hpre : ∀ vm₁, s.WarmedH vm₁ → Pre ⟨T.setVm vm₁, locs, cells, slots⟩ argsL.toArray) :
    ∃ (v : Option Value) (vm₁ : Vm) (B : Pt), s.WarmedH vm₁ ∧ Stand p l e R s m args below meth c B.U B.locs B.cells B.slots ∧ Post ⟨T.setVm vm₁, locs, cells, slots⟩ argsL.toArray v B ∧
      ∀ target, Steps p.tables e below (B.U.setTop { g with pc := g.pc + 3, stack := v.toList ++ rest }) target → Steps p.tables e below (T.setTop g) target := by
  obtain ⟨mk, methM, cM, hnamed, hmethM, -, -, -, -, -, -, hsigM⟩ := Cond.codeWith_spec hcode
  have hstatic : methM.isStatic = true := Cond.static_spec hnamed hmethM hstat
  obtain ⟨kP, hkP, -⟩ := className_of_methodNamed hnamed
  have hinitP : kP.init = .initialized := Cond.initialized_spec (findClass_of_methodNamed hnamed) hkP hinit
  obtain ⟨vm₁, X₁, hstep₁⟩ := X.invokestatic hexec hown hlink hnamed hmethM hstatic hkP hinitP hy (g := g) hg (argsL := argsL) (rest := rest) (hlen _ hsigM) hstack hdg
  obtain ⟨v, B, X', hpost, hsteps⟩ := hK m meth c ⟨T.setVm vm₁, locs, cells, slots⟩ { g with stack := rest } (.invokestatic index) mk argsL.toArray X₁ hg hsize hdg hW (X₁.named hnamed) (hpre vm₁ X₁.warmed)
  exact ⟨v, vm₁, B, X₁.warmed, X', hpost, fun target h => hstep₁ _ fun acts => by rw [doInvoke_state]; exact hsteps.trans h⟩
theorem vx_runSW {y : MethodName} {bytes cc : ByteArray} {maxL nL mc ms n index : Nat} {ret : Option FieldType} {hh : List (Nat × Nat × Nat × Nat)} {ws : List Cond} {rm : Room} {Pc : Array Value → State → Prop} {Qc : Array Value → State → Outcome → State → Prop} {free : Addr → Prop} {Ts : List Cond} {own : String} {As rest : List Value} {g : JFrame}
    (S : CallFix p m c cc nL s args Ts own) (hM : Met l y ws rm Pc Qc mc ms free) (cw : vx_CSW R s args own index y bytes maxL ret hh ws rm mc ms n) (hp : PreS s H Pc As)
    (hg : g.method = m) (hn : As.length = n) (hsize : g.locals.size = nL) (hstack : g.stack = As.reverse ++ rest) (hW : 2 * g.monitorRoom + (rest.map fun v => v.category).sum ≤ 8) (hdg : decode cc g.pc = .ok (.invokestatic index, 3)) (hf : cells + mc ≤ R.cells ∧ slots + ms ≤ R.slots) :
    va_Run p l e R s m args below meth c H locs cells slots mc ms g rest (Qc As.toArray) (free) := by
  obtain ⟨⟨hrc, hrs, hfr, hlo, hws, hcw⟩, hcode, hini, hy, hlen, hl, hstt⟩ := cw
  have hK : Back l R p e below s args y 3 8 (PreOf R mc ms Pc) (PostOf Qc mc ms free) := va_backW (hh := hh) (bytes := bytes) (maxL := maxL) (ret := ret) hM hp.1 hrc hrs hfr hlo hws hcw (fun a' U hW => word_at hW (Or.inl (by first | rfl | simp [Cond.onTables, Cond.keeps, Cond.steady])) hini)
  obtain ⟨hx, hb, hml, ho, -⟩ := S
  intro T hT X
  obtain ⟨v, vm₁, ⟨U', l2, c2, s2⟩, hW₁, X', ⟨g', mk, t, L, e1, e2, hq, h1, hL, h2, h3⟩, st⟩ := vx_callSW X hx (hh := hh) (bytes := bytes) (maxL := maxL) (ret := ret) ho hl hstt hini hcode hy hK hg (hsize.trans hml.symm) (argsL := As) (rest := rest) (fun sig h => hn.trans (hlen sig h)) hstack hW (by rw [hb]; exact hdg)
    (fun vm₁ hW₁ => ⟨hf.1, hf.2, hp.2 (T.setVm vm₁) hT hW₁⟩)
  dsimp only [Pt.U, Pt.locs, Pt.cells, Pt.slots] at X' e1 e2 h1 h2 h3 st
  subst h1; subst h2; subst h3
  exact ⟨v, (T.setVm vm₁).calling g' mk As.toArray, t, U', L, hT, X', hL, e1, e2, hq, st⟩
/-- not caught here, past rows that name other classes: it goes on to the caller -/
theorem vx_outP {p : Program} {l : Launch} {e : Env} {R : Room} {s : State} {m : MethodId} {args : Array Value} {below : List Frame} {meth : Method} {c : Code} {H : Heap} {locs : List Loc} {cells slots : Nat} {free : Addr → Prop} {ls : Array Slot} {rest : List Value} {Qc : Array Value → State → Outcome → State → Prop} {XC : String → State → State → Prop}
    {pc : Nat} {own E : String} {ce : Cell} {q : Addr} {mc ms : Nat} (hown : s.vm.findClass own = some m.cls) (hlocks : meth.locks = false)
    (hpass : ∀ z ∈ c.exceptionTable.toList, covers z pc = false ∨ (z.catchType ≠ 0 ∧ ∃ nm : String, (Cond.classLink own z.catchType nm).before args s = true ∧ va_Nc E nm s)) (hcell : H[q]? = some ce) (hv : ce.vm = .none) (hcl : s.vm.findClass E = some ce.cls)
    (hx : ∀ t : State, t.heap = H → s.vm.Alike t.vm → XC E s t) (hf : ∀ z ∈ locs, free z.base) (hc : cells ≤ mc) (hs : slots ≤ ms) :
    vx_W p l e R s m args below meth c H locs cells slots (vx_MQ below Qc XC args s mc ms free) (F0 m pc ls rest) q := by
  intro T hT X
  have hpl : e.platform.magicAccessors = ({} : Platform).magicAccessors := by rw [X.admits.platform]
  obtain ⟨vm', hW', X', st⟩ := X.outThrough hlocks q (g := F0 m pc ls rest) rfl rfl rfl (cell := ce) (by rw [hT]; exact hcell) (by rw [hv]; rfl)
    (by obtain ⟨k9, h9, -⟩ := Vm.findClass_spec hcl; exact ⟨k9, h9⟩) (fun z hz => by
      rcases hpass z hz with h | ⟨hz0, nm, hl1, hn1⟩
      · exact Or.inl h
      · obtain ⟨c6, hc6, hcl6⟩ := Cond.classLink_spec hown hl1 e.platform hpl
        obtain ⟨a8, b8, h1, h2, h3⟩ := hn1
        cases Option.some.inj (h1.symm.trans hcl)
        cases Option.some.inj (h2.symm.trans hc6)
        exact Or.inr ⟨hz0, _, hcl6, h3⟩)
  obtain ⟨g₀, hfr⟩ := X'.frames_eq
  have hcell9 : ((T.setVm vm').setFrames (.throwing q :: below)).heap[q]? = some ce := by
    show T.heap[q]? = some ce
    rw [hT]; exact hcell
  have hend : Ended ((T.setVm vm').setFrames (.throwing q :: below)) below (.threw q) := State.frames_setFrames _ (State.cur_lt_of_frames hfr)
  refine ⟨(T.setVm vm').setFrames (.throwing q :: below), ?_, .threw q, X'.here.running, hend, Or.inr ⟨q, rfl, E, ce, locs, hx _ hT (X'.ends _).1.alike, hcell9, hv, hcl, (X'.ends _).1, (X'.ends _).2.mono hc hs, hf⟩⟩
  rw [X.pushThrowing_eq]
  exact st
/-- a thing of a world lies in the heap -/
theorem vx_lt {D : va_G} {cl : List vw_C} {ws : va_W} {H1 : Heap} (h : va_P D cl ws H1) {k : Nat} {q : Nat × va_E} (hk : ws[k]? = some q) : q.1 < H1.size := (h k q hk).lt
end VXS
/-! ===== END ===== -/
/-! ===== BEGIN methods with a table of their own: called by a name, returning or throwing ===== -/
section VXH
/-! vx_backW, vx_callVX, vx_callSX, vx_callVW, vx_runVW, vx_runVX, vx_runSX, vx_ofWH follow the same proofs as their sisters above (Free/Laws.lean, Shelf42/LK1.lean); vx_outP calls Shelf42/NT130.lean (outThrough). -/
section
variable {l : Launch} {R : Room} {p : Program} {e : Env} {below : List Frame} {s : State} {sargs : Array Value} {y : MethodName} {len W9 : Nat}
theorem vx_backW {ws : List Cond} {rm : Room} {Pc : Array Value → State → Prop} {Qc : Array Value → State → Outcome → State → Prop} {XC : String → State → State → Prop} {mc ms : Nat} {free : Addr → Prop} {bytes : ByteArray} {maxL : Nat} {ret : Option FieldType} {hh : List (Nat × Nat × Nat × Nat)}
    (hM : vx_Met l y ws rm Pc Qc XC mc ms free) (hblind : FrameBlind Pc) (hrc : rm.cells = mc) (hrs : rm.slots = ms)
    (hframes : rm.frames + 1 ≤ R.frames) (hlocals : W9 + (maxL + 11) + rm.locals ≤ R.locals)
    (hws : ∀ w ∈ ws, ∀ a' U, s.WarmedH U.vm → w.before a' U = true) (hcode : Cond.codeWith y bytes maxL ret hh ∈ ws) (hinit : ∀ a' U, s.WarmedH U.vm → (Cond.initialized y.cls).before a' U = true) :
    vx_Back l R p e below s sargs y len W9 (PreOf R mc ms Pc) (PostOf Qc mc ms free) (vx_Post XC mc ms free) := by
  intro m meth c A g ig mk a X hg hsize hdg hW hn hp
  have h1 : (headSpec ws rm).pre.before a A.U = true := atoms_intro fun w hw => hws w hw _ _ X.warmed
  have h2 : (Cond.codeWith y bytes maxL ret hh).before a A.U = true := hws _ hcode _ _ X.warmed
  have h3 : (Cond.initialized y.cls).before a A.U = true := hinit _ _ X.warmed
  have h4 : A.cells + (headSpec ws rm).room.cells ≤ R.cells := by rw [show (headSpec ws rm).room.cells = mc from hrc]; exact hp.1
  have h5 : A.slots + (headSpec ws rm).room.slots ≤ R.slots := by rw [show (headSpec ws rm).room.slots = ms from hrs]; exact hp.2.1
  have hPc : Pc a (A.U.calling g mk a) := hblind _ _ _ _ hp.2.2
  obtain ⟨U, Ls, c0, s0⟩ := A
  dsimp only [Pt.U, Pt.locs, Pt.cells, Pt.slots] at h1 h2 h3 h4 h5 X hn hPc ⊢
  obtain ⟨m9, methY, cY, hn9, hmY, hcY, -, hlY, -⟩ := Cond.codeWith_spec h2
  cases Option.some.inj (hn9.symm.trans hn)
  obtain ⟨kY, hkY, -⟩ := className_of_methodNamed hn
  have hinitY : kY.init = .initialized := Cond.initialized_spec (findClass_of_methodNamed hn) hkY h3
  have h : At U g.method c below := by rw [hg]; exact X.here
  have hlocals9 : W9 + (maxL + 11) + (headSpec ws rm).room.locals ≤ R.locals := hlocals
  have happ : (headSpec ws rm).appliesLoose y e.platform (U.calling g mk a) = true :=
    Spec.appliesLoose_calling (g := g) h hdg hn hkY hinitY
      (X.room_calling (g := g) (R' := (headSpec ws rm).room) hsize hmY hcY hframes (by rw [hlY]; omega) h4 h5) h1
  obtain ⟨mid, hmid⟩ := h.above
  have hfr : (U.setTop g).frames = (.java g :: mid) ++ below := by rw [State.frames_setTop' g h.top, hmid]; rfl
  obtain ⟨o, s₂, hsteps, -, hend, hq⟩ := Steps.callFree hM p X.admits X.cas X.clock (acts := []) hfr happ hPc trivial
  have hq' : vx_Q Qc XC mc ms free a (U.calling g mk a) o s₂ := hq
  rw [State.frames_setTop' g h.top] at hend
  obtain ⟨g₀, hg0⟩ := Option.isSome_iff_exists.mp h.top
  obtain ⟨r, hr⟩ := State.topJava?_eq_some.mp hg0
  have hr' : (({ U with heap := s₂.heap, slotsUsed := s₂.slotsUsed } : State).setVm s₂.vm).frames = .java g₀ :: r := hr
  rcases hq' with ⟨hqc, L, hfe, hL⟩ | ⟨q, rfl, E, ce, L, hx, hce, hcv, hcl, hW₂, hsm, hL⟩
  · obtain ⟨⟨v, rfl⟩, hW₂, e2, q2, q3, q4, q5, q6⟩ := id hfe
    have e3 : s₂ = ({ (U.calling g mk a).setFrames s₂.frames with heap := s₂.heap, slotsUsed := s₂.slotsUsed } : State).setVm s₂.vm := by
      have : s₂ = ({ s₂ with vm := (U.calling g mk a).vm } : State).setVm s₂.vm := rfl
      rw [e2] at this
      exact this
    obtain ⟨c₂, i₂, len₂, hc₂, hd₂, hf₂⟩ := hend
    have hW' : U.WarmedH s₂.vm := hW₂
    have hcc : c₂ = c := by
      have h1 : s₂.code? g.method = U.code? g.method := by
        rw [State.code?_eq, State.code?_eq, hW'.alike.method?]
      exact Option.some.inj (hc₂.symm.trans (h1.trans h.code))
    subst hcc
    have hlen : len₂ = len := by rw [hdg] at hd₂; cases hd₂; rfl
    subst hlen
    have hs₂ : s₂ = (({ U with heap := s₂.heap, slotsUsed := s₂.slotsUsed } : State).setVm s₂.vm).setTop { g with pc := g.pc + len₂, stack := v.toList ++ g.stack } := by
      refine e3.trans ?_
      rw [hf₂, State.calling_eq h.top, State.setFrames_setFrames, State.setTop_of_frames _ hr', hr]
      rfl
    have hsame : U.sameButNew ({ U with heap := s₂.heap, slotsUsed := s₂.slotsUsed } : State) L mc ms := by
      refine ⟨?_, q2, q3, q4, q5, q6⟩
      obtain ⟨t, ht, -⟩ := State.frames_cons hr
      show ({ U with heap := s₂.heap, slotsUsed := s₂.slotsUsed } : State) = { U.setFrames U.frames with heap := s₂.heap, slotsUsed := s₂.slotsUsed }
      rw [State.setFrames_self ht]
    subst hg
    refine Or.inl ⟨v, ⟨(({ U with heap := s₂.heap, slotsUsed := s₂.slotsUsed } : State).setVm s₂.vm), Ls ++ L, c0 + mc, s0 + ms⟩,
      ⟨X.admits, X.cas, X.clock, X.frames, X.room, X.hears, X.method, X.code, (X.here.setHeapUsed s₂.heap s₂.slotsUsed).setVm hW'.alike, X.tail, State.WarmedH.trans X.warmed hW', X.limits, X.bytes, X.same.trans (hsame.setVm s.vm)⟩,
      ⟨g, mk, s₂, L, rfl, rfl, hqc, rfl, hL, rfl, rfl⟩, ?_⟩
    show Steps p.tables e below _ ((({ U with heap := s₂.heap, slotsUsed := s₂.slotsUsed } : State).setVm s₂.vm).setTop { g with pc := g.pc + len₂, stack := v.toList ++ g.stack })
    rw [← hs₂]
    exact hsteps
  · obtain ⟨e2, q2, q3, q4, q5, q6⟩ := id hsm
    have e3 : s₂ = ({ (U.calling g mk a).setFrames s₂.frames with heap := s₂.heap, slotsUsed := s₂.slotsUsed } : State).setVm s₂.vm := by
      have : s₂ = ({ s₂ with vm := (U.calling g mk a).vm } : State).setVm s₂.vm := rfl
      rw [e2] at this
      exact this
    have hf₂ : s₂.frames = .throwing q :: .java g :: U.frames.tail := hend
    have hW' : U.WarmedH s₂.vm := hW₂
    have hs₂ : s₂ = ((({ U with heap := s₂.heap, slotsUsed := s₂.slotsUsed } : State).setVm s₂.vm).setTop g).pushFrame (.throwing q) := by
      refine e3.trans ?_
      rw [hf₂, State.calling_eq h.top, State.setFrames_setFrames, State.pushFrame, State.frames_setTop _ hr', State.setTop_of_frames _ hr', State.setFrames_setFrames, hr]
      rfl
    have hsame : U.sameButNew ({ U with heap := s₂.heap, slotsUsed := s₂.slotsUsed } : State) L mc ms := by
      refine ⟨?_, q2, q3, q4, q5, q6⟩
      obtain ⟨t, ht, -⟩ := State.frames_cons hr
      show ({ U with heap := s₂.heap, slotsUsed := s₂.slotsUsed } : State) = { U.setFrames U.frames with heap := s₂.heap, slotsUsed := s₂.slotsUsed }
      rw [State.setFrames_self ht]
    subst hg
    refine Or.inr ⟨q, ⟨(({ U with heap := s₂.heap, slotsUsed := s₂.slotsUsed } : State).setVm s₂.vm), Ls ++ L, c0 + mc, s0 + ms⟩,
      ⟨X.admits, X.cas, X.clock, X.frames, X.room, X.hears, X.method, X.code, (X.here.setHeapUsed s₂.heap s₂.slotsUsed).setVm hW'.alike, X.tail, State.WarmedH.trans X.warmed hW', X.limits, X.bytes, X.same.trans (hsame.setVm s.vm)⟩,
      ⟨g, mk, s₂, L, E, ce, rfl, rfl, hx, hce, hcv, hcl, rfl, hL, rfl, rfl⟩, ?_⟩
    show Steps p.tables e below _ (((({ U with heap := s₂.heap, slotsUsed := s₂.slotsUsed } : State).setVm s₂.vm).setTop g).pushFrame (.throwing q))
    rw [← hs₂]
    exact hsteps
end
variable {p : Program} {l : Launch} {e : Env} {R : Room} {s : State} {m : MethodId} {args : Array Value} {below : List Frame} {meth : Method} {c : Code} {T : State} {H : Heap} {locs : List Loc} {cells slots : Nat}
theorem vx_callVX (X : Stand p l e R s m args below meth c T locs cells slots) (hexec : p.tables.exec = Jvm.exec) {own C : String} {index : Nat} {y : MethodName} {bytes : ByteArray} {maxL : Nat} {ret : Option FieldType} {hh : List (Nat × Nat × Nat × Nat)}
    (hown : s.vm.findClass own = some m.cls) (hlink : (Cond.methodLink own index y).before args s = true) (hinst : (Cond.instanceMethod y).before args s = true) (hsel : (Cond.selects C y y).before args s = true)
    (hcode : (Cond.codeWith y bytes maxL ret hh).before args s = true) (hy : y.cls ≠ "java/lang/invoke/MethodHandle" ∧ y.cls ≠ "java/lang/invoke/VarHandle")
    {W9 : Nat} {Pre : Pt → Array Value → Prop} {Post : Pt → Array Value → Option Value → Pt → Prop} {PostX : Pt → Array Value → Addr → Pt → Prop} (hK : vx_Back l R p e below s args y 3 W9 Pre Post PostX)
    {b : Addr} {cellB : Cell} (hcell : T.heap[b]? = some cellB) (hobj : cellB.vm.isStatics = false) (hcls : s.vm.findClass C = some cellB.cls)
    {g : JFrame} (hg : g.method = m) (hsize : g.locals.size = c.maxLocals) {argsL rest : List Value} (hlen : ∀ sig, parseMethodDescriptor y.desc = some sig → argsL.length = sig.parameters.length)
    (hstack : g.stack = argsL.reverse ++ .ref b :: rest) (hW : 2 * g.monitorRoom + (rest.map fun v => v.category).sum ≤ W9) (hdg : decode c.code g.pc = .ok (.invokevirtual index, 3))
    (hpre : ∀ vm₁, s.WarmedH vm₁ → Pre ⟨T.setVm vm₁, locs, cells, slots⟩ (Value.ref b :: argsL).toArray) :
    (∃ (v : Option Value) (vm₁ : Vm) (B : Pt), s.WarmedH vm₁ ∧ Stand p l e R s m args below meth c B.U B.locs B.cells B.slots ∧ Post ⟨T.setVm vm₁, locs, cells, slots⟩ (Value.ref b :: argsL).toArray v B ∧
      ∀ target, Steps p.tables e below (B.U.setTop { g with pc := g.pc + 3, stack := v.toList ++ rest }) target → Steps p.tables e below (T.setTop g) target) ∨
    (∃ (q : Addr) (vm₁ : Vm) (B : Pt), s.WarmedH vm₁ ∧ Stand p l e R s m args below meth c B.U B.locs B.cells B.slots ∧ PostX ⟨T.setVm vm₁, locs, cells, slots⟩ (Value.ref b :: argsL).toArray q B ∧
      Steps p.tables e below (T.setTop g) ((B.U.setTop { g with stack := rest }).pushFrame (.throwing q))) := by
  obtain ⟨mk, methM, hnamed, hmethM, hstM, habM⟩ := Cond.instanceMethod_spec hinst
  obtain ⟨m8, methM', cM, hn8, hmethM', -, -, -, -, -, -, hsigM⟩ := Cond.codeWith_spec hcode
  cases Option.some.inj (hn8.symm.trans hnamed)
  cases hmethM.symm.trans hmethM'
  obtain ⟨c2, r2, m2, q1, q2, q3, q4, kP, hkP, hkPi⟩ := Cond.selects_spec hsel
  cases hcls.symm.trans q1
  cases (State.methodFound?_of_named hnamed hy).symm.trans q2
  cases hnamed.symm.trans q3
  have hselP : selectMethod e.platform s.vm cellB.cls mk = .method mk := by rw [Launch.admits_selectMethod X.admits]; exact q4
  obtain ⟨vm₁, X₁, hstep₁⟩ := X.invokevirtual hexec hown hlink hnamed hmethM hstM hkP hkPi hy (a := b) (cell := cellB) hcell
    (fun z h => by rw [h] at hobj; cases hobj) hselP hmethM habM hkP hkPi (g := g) hg (argsL := argsL) (rest := rest) (hlen _ hsigM) hstack hdg
  rcases hK m meth c ⟨T.setVm vm₁, locs, cells, slots⟩ { g with stack := rest } (.invokevirtual index) mk (Value.ref b :: argsL).toArray X₁ hg hsize hdg hW (X₁.named hnamed) (hpre vm₁ X₁.warmed) with ⟨v, B, X', hpost, hsteps⟩ | ⟨q, B, X', hpost, hsteps⟩
  · exact Or.inl ⟨v, vm₁, B, X₁.warmed, X', hpost, fun target h => hstep₁ _ fun acts => by rw [doInvoke_state]; exact hsteps.trans h⟩
  · exact Or.inr ⟨q, vm₁, B, X₁.warmed, X', hpost, hstep₁ _ fun acts => by rw [doInvoke_state]; exact hsteps⟩
theorem vx_callSX (X : Stand p l e R s m args below meth c T locs cells slots) (hexec : p.tables.exec = Jvm.exec) {own : String} {index : Nat} {y : MethodName} {bytes : ByteArray} {maxL : Nat} {ret : Option FieldType} {hh : List (Nat × Nat × Nat × Nat)}
    (hown : s.vm.findClass own = some m.cls) (hlink : (Cond.methodLink own index y).before args s = true) (hstat : (Cond.static y).before args s = true) (hinit : (Cond.initialized y.cls).before args s = true)
    (hcode : (Cond.codeWith y bytes maxL ret hh).before args s = true) (hy : y.cls ≠ "java/lang/invoke/MethodHandle" ∧ y.cls ≠ "java/lang/invoke/VarHandle")
    {W9 : Nat} {Pre : Pt → Array Value → Prop} {Post : Pt → Array Value → Option Value → Pt → Prop} {PostX : Pt → Array Value → Addr → Pt → Prop} (hK : vx_Back l R p e below s args y 3 W9 Pre Post PostX)
    {g : JFrame} (hg : g.method = m) (hsize : g.locals.size = c.maxLocals) {argsL rest : List Value} (hlen : ∀ sig, parseMethodDescriptor y.desc = some sig → argsL.length = sig.parameters.length)
    (hstack : g.stack = argsL.reverse ++ rest) (hW : 2 * g.monitorRoom + (rest.map fun v => v.category).sum ≤ W9) (hdg : decode c.code g.pc = .ok (.invokestatic index, 3))
    (hpre : ∀ vm₁, s.WarmedH vm₁ → Pre ⟨T.setVm vm₁, locs, cells, slots⟩ argsL.toArray) :
    (∃ (v : Option Value) (vm₁ : Vm) (B : Pt), s.WarmedH vm₁ ∧ Stand p l e R s m args below meth c B.U B.locs B.cells B.slots ∧ Post ⟨T.setVm vm₁, locs, cells, slots⟩ argsL.toArray v B ∧
      ∀ target, Steps p.tables e below (B.U.setTop { g with pc := g.pc + 3, stack := v.toList ++ rest }) target → Steps p.tables e below (T.setTop g) target) ∨
    (∃ (q : Addr) (vm₁ : Vm) (B : Pt), s.WarmedH vm₁ ∧ Stand p l e R s m args below meth c B.U B.locs B.cells B.slots ∧ PostX ⟨T.setVm vm₁, locs, cells, slots⟩ argsL.toArray q B ∧
      Steps p.tables e below (T.setTop g) ((B.U.setTop { g with stack := rest }).pushFrame (.throwing q))) := by
  obtain ⟨mk, methM, cM, hnamed, hmethM, -, -, -, -, -, -, hsigM⟩ := Cond.codeWith_spec hcode
  have hstatic : methM.isStatic = true := Cond.static_spec hnamed hmethM hstat
  obtain ⟨kP, hkP, -⟩ := className_of_methodNamed hnamed
  have hinitP : kP.init = .initialized := Cond.initialized_spec (findClass_of_methodNamed hnamed) hkP hinit
  obtain ⟨vm₁, X₁, hstep₁⟩ := X.invokestatic hexec hown hlink hnamed hmethM hstatic hkP hinitP hy (g := g) hg (argsL := argsL) (rest := rest) (hlen _ hsigM) hstack hdg
  rcases hK m meth c ⟨T.setVm vm₁, locs, cells, slots⟩ { g with stack := rest } (.invokestatic index) mk argsL.toArray X₁ hg hsize hdg hW (X₁.named hnamed) (hpre vm₁ X₁.warmed) with ⟨v, B, X', hpost, hsteps⟩ | ⟨q, B, X', hpost, hsteps⟩
  · exact Or.inl ⟨v, vm₁, B, X₁.warmed, X', hpost, fun target h => hstep₁ _ fun acts => by rw [doInvoke_state]; exact hsteps.trans h⟩
  · exact Or.inr ⟨q, vm₁, B, X₁.warmed, X', hpost, hstep₁ _ fun acts => by rw [doInvoke_state]; exact hsteps⟩
theorem vx_callVW (X : Stand p l e R s m args below meth c T locs cells slots) (hexec : p.tables.exec = Jvm.exec) {own C : String} {index : Nat} {y : MethodName} {bytes : ByteArray} {maxL : Nat} {ret : Option FieldType} {hh : List (Nat × Nat × Nat × Nat)}
    (hown : s.vm.findClass own = some m.cls) (hlink : (Cond.methodLink own index y).before args s = true) (hinst : (Cond.instanceMethod y).before args s = true) (hsel : (Cond.selects C y y).before args s = true)
    (hcode : (Cond.codeWith y bytes maxL ret hh).before args s = true) (hy : y.cls ≠ "java/lang/invoke/MethodHandle" ∧ y.cls ≠ "java/lang/invoke/VarHandle")
    {W9 : Nat} {Pre : Pt → Array Value → Prop} {Post : Pt → Array Value → Option Value → Pt → Prop} (hK : Back l R p e below s args y 3 W9 Pre Post)
    {b : Addr} {cellB : Cell} (hcell : T.heap[b]? = some cellB) (hobj : cellB.vm.isStatics = false) (hcls : s.vm.findClass C = some cellB.cls)
    {g : JFrame} (hg : g.method = m) (hsize : g.locals.size = c.maxLocals) {argsL rest : List Value} (hlen : ∀ sig, parseMethodDescriptor y.desc = some sig → argsL.length = sig.parameters.length)
    (hstack : g.stack = argsL.reverse ++ .ref b :: rest) (hW : 2 * g.monitorRoom + (rest.map fun v => v.category).sum ≤ W9) (hdg : decode c.code g.pc = .ok (.invokevirtual index, 3))
    (hpre : ∀ vm₁, s.WarmedH vm₁ → Pre ⟨T.setVm vm₁, locs, cells, slots⟩ (Value.ref b :: argsL).toArray) :
    ∃ (v : Option Value) (vm₁ : Vm) (B : Pt), s.WarmedH vm₁ ∧ Stand p l e R s m args below meth c B.U B.locs B.cells B.slots ∧ Post ⟨T.setVm vm₁, locs, cells, slots⟩ (Value.ref b :: argsL).toArray v B ∧
      ∀ target, Steps p.tables e below (B.U.setTop { g with pc := g.pc + 3, stack := v.toList ++ rest }) target → Steps p.tables e below (T.setTop g) target := by
  obtain ⟨mk, methM, hnamed, hmethM, hstM, habM⟩ := Cond.instanceMethod_spec hinst
  obtain ⟨m8, methM', cM, hn8, hmethM', -, -, -, -, -, -, hsigM⟩ := Cond.codeWith_spec hcode
  cases Option.some.inj (hn8.symm.trans hnamed)
  cases hmethM.symm.trans hmethM'
  obtain ⟨c2, r2, m2, q1, q2, q3, q4, kP, hkP, hkPi⟩ := Cond.selects_spec hsel
  cases hcls.symm.trans q1
  cases (State.methodFound?_of_named hnamed hy).symm.trans q2
  cases hnamed.symm.trans q3
  have hselP : selectMethod e.platform s.vm cellB.cls mk = .method mk := by rw [Launch.admits_selectMethod X.admits]; exact q4
  obtain ⟨vm₁, X₁, hstep₁⟩ := X.invokevirtual hexec hown hlink hnamed hmethM hstM hkP hkPi hy (a := b) (cell := cellB) hcell
    (fun z h => by rw [h] at hobj; cases hobj) hselP hmethM habM hkP hkPi (g := g) hg (argsL := argsL) (rest := rest) (hlen _ hsigM) hstack hdg
  obtain ⟨v, B, X', hpost, hsteps⟩ := hK m meth c ⟨T.setVm vm₁, locs, cells, slots⟩ { g with stack := rest } (.invokevirtual index) mk (Value.ref b :: argsL).toArray X₁ hg hsize hdg hW (X₁.named hnamed) (hpre vm₁ X₁.warmed)
  exact ⟨v, vm₁, B, X₁.warmed, X', hpost, fun target h => hstep₁ _ fun acts => by rw [doInvoke_state]; exact hsteps.trans h⟩
abbrev vx_CVW (R : Room) (s : State) (args : Array Value) (own C : String) (index : Nat) (y : MethodName) (bytes : ByteArray) (maxL : Nat) (ret : Option FieldType) (hh : List (Nat × Nat × Nat × Nat)) (ws : List Cond) (rm : Room) (mc ms n : Nat) : Prop :=
  (rm.cells = mc ∧ rm.slots = ms ∧ rm.frames + 1 ≤ R.frames ∧ 8 + (maxL + 11) + rm.locals ≤ R.locals ∧ (∀ w ∈ ws, ∀ (a' : Array Value) (U : State), s.WarmedH U.vm → w.before a' U = true) ∧ Cond.codeWith y bytes maxL ret hh ∈ ws) ∧
  (Cond.codeWith y bytes maxL ret hh).before args s = true ∧ (Cond.initialized y.cls).before args s = true ∧ (y.cls ≠ "java/lang/invoke/MethodHandle" ∧ y.cls ≠ "java/lang/invoke/VarHandle") ∧
  (∀ sig, parseMethodDescriptor y.desc = some sig → n = sig.parameters.length) ∧ (Cond.methodLink own index y).before args s = true ∧ (Cond.instanceMethod y).before args s = true ∧ (Cond.selects C y y).before args s = true
theorem vx_cwVW {own C : String} {index maxL mc ms : Nat} {y : MethodName} {bytes : ByteArray} {ret : Option FieldType} {hh : List (Nat × Nat × Nat × Nat)} {Ts ws ws' : List Cond} {rm : Room} (n : Nat) (ht : ∀ w ∈ Ts, w.before args s = true) (hT : GoodIn Ts (wsV own index C y ws)) (hw : ws = Cond.codeWith y bytes maxL ret hh :: ws') (hrc : rm.cells = mc) (hrs : rm.slots = ms)
    (hd : y.cls = C ∧ y.cls ≠ "java/lang/invoke/MethodHandle" ∧ y.cls ≠ "java/lang/invoke/VarHandle" ∧ (parseMethodDescriptor y.desc).map (fun d => d.parameters.length) = some n) (hR : rm.frames + 1 ≤ R.frames ∧ 8 + (maxL + 11) + rm.locals ≤ R.locals) :
    vx_CVW R s args own C index y bytes maxL ret hh ws rm mc ms n := by
  obtain ⟨hC, hd⟩ := hd
  subst hC
  have ok : ∀ w ∈ wsV own index y.cls y ws, w.before args s = true := fun w h => ht w (hT w h).1
  have hG : GoodIn Ts ws := fun w h => hT w (by unfold wsV; exact List.mem_append_right _ h)
  have hc : Cond.codeWith y bytes maxL ret hh ∈ ws := by rw [hw]; exact List.mem_cons_self
  refine ⟨⟨hrc, hrs, hR.1, hR.2, pay_in ht hG, hc⟩, ht _ (hG _ hc).1, ok _ (by simp [wsV]), ⟨hd.1, hd.2.1⟩, fun sig h => ?_, ok _ (by simp [wsV]), ok _ (by simp [wsV]), ok _ (by simp [wsV])⟩
  have h2 := hd.2.2
  rw [h] at h2
  exact (Option.some.inj h2).symm
theorem vx_runVW {y : MethodName} {bytes cc : ByteArray} {maxL nL mc ms n index : Nat} {ret : Option FieldType} {hh : List (Nat × Nat × Nat × Nat)} {ws : List Cond} {rm : Room} {Pc : Array Value → State → Prop} {Qc : Array Value → State → Outcome → State → Prop} {free : Addr → Prop} {Ts : List Cond} {own C : String} {b : Addr} {As rest : List Value} {g : JFrame}
    (S : CallFix p m c cc nL s args Ts own) (hM : Met l y ws rm Pc Qc mc ms free) (cw : vx_CVW R s args own C index y bytes maxL ret hh ws rm mc ms n) (hp : PreV s H C b Pc As)
    (hg : g.method = m) (hn : As.length = n) (hsize : g.locals.size = nL) (hstack : g.stack = As.reverse ++ .ref b :: rest) (hW : 2 * g.monitorRoom + (rest.map fun v => v.category).sum ≤ 8) (hdg : decode cc g.pc = .ok (.invokevirtual index, 3)) (hf : cells + mc ≤ R.cells ∧ slots + ms ≤ R.slots) :
    va_Run p l e R s m args below meth c H locs cells slots mc ms g rest (Qc (Value.ref b :: As).toArray) free := by
  obtain ⟨⟨hrc, hrs, hfr, hlo, hws, hcw⟩, hcode, hini, hy, hlen, hl, hin, hse⟩ := cw
  have hK : Back l R p e below s args y 3 8 (PreOf R mc ms Pc) (PostOf Qc mc ms free) := va_backW (hh := hh) (bytes := bytes) (maxL := maxL) (ret := ret) hM hp.1 hrc hrs hfr hlo hws hcw (fun a' U hW => word_at hW (Or.inl (by first | rfl | simp [Cond.onTables, Cond.keeps, Cond.steady])) hini)
  obtain ⟨hx, hb, hml, ho, -⟩ := S
  obtain ⟨-, ⟨cellB, hcB, hoB, hclB⟩, hPc⟩ := hp
  intro T hT X
  obtain ⟨v, vm₁, ⟨U', l2, c2, s2⟩, hW₁, X', ⟨g', mk, t, L, e1, e2, hq, h1, hL, h2, h3⟩, st⟩ := vx_callVW X hx (C := C) (hh := hh) (bytes := bytes) (maxL := maxL) (ret := ret) ho hl hin hse hcode hy hK (by rw [hT]; exact hcB) hoB hclB hg (hsize.trans hml.symm) (argsL := As) (rest := rest) (fun sig h => hn.trans (hlen sig h)) hstack hW (by rw [hb]; exact hdg)
    (fun vm₁ hW₁ => ⟨hf.1, hf.2, hPc (T.setVm vm₁) hT hW₁⟩)
  dsimp only [Pt.U, Pt.locs, Pt.cells, Pt.slots] at X' e1 e2 h1 h2 h3 st
  subst h1; subst h2; subst h3
  exact ⟨v, (T.setVm vm₁).calling g' mk (Value.ref b :: As).toArray, t, U', L, hT, X', hL, e1, e2, hq, st⟩
section
variable {y : MethodName} {bytes cc : ByteArray} {maxL nL mc ms n index : Nat} {ret : Option FieldType} {ws : List Cond} {rm : Room} {Pc : Array Value → State → Prop} {Qc : Array Value → State → Outcome → State → Prop} {XC : String → State → State → Prop} {free : Addr → Prop} {Ts : List Cond} {own C : String} {b : Addr} {As rest : List Value} {g : JFrame}
theorem vx_runVX {hh : List (Nat × Nat × Nat × Nat)} (S : CallFix p m c cc nL s args Ts own) (hM : vx_Met l y ws rm Pc Qc XC mc ms free) (cw : vx_CVW R s args own C index y bytes maxL ret hh ws rm mc ms n) (hp : PreV s H C b Pc As)
    (hg : g.method = m) (hn : As.length = n) (hsize : g.locals.size = nL) (hstack : g.stack = As.reverse ++ .ref b :: rest) (hW : 2 * g.monitorRoom + (rest.map fun v => v.category).sum ≤ 8) (hdg : decode cc g.pc = .ok (.invokevirtual index, 3)) (hf : cells + mc ≤ R.cells ∧ slots + ms ≤ R.slots) :
    vx_Run p l e R s m args below meth c H locs cells slots mc ms g rest (Qc (Value.ref b :: As).toArray) XC free := by
  obtain ⟨⟨hrc, hrs, hfr, hlo, hws, hcw⟩, hcode, hini, hy, hlen, hl, hin, hse⟩ := cw
  have hK : vx_Back l R p e below s args y 3 8 (PreOf R mc ms Pc) (PostOf Qc mc ms free) (vx_Post XC mc ms free) := vx_backW (hh := hh) (bytes := bytes) (maxL := maxL) (ret := ret) hM hp.1 hrc hrs hfr hlo hws hcw (fun a' U hW => word_at hW (Or.inl (by first | rfl | simp [Cond.onTables, Cond.keeps, Cond.steady])) hini)
  obtain ⟨hx, hb, hml, ho, -⟩ := S
  obtain ⟨-, ⟨cellB, hcB, hoB, hclB⟩, hPc⟩ := hp
  intro T hT X
  rcases vx_callVX X hx (C := C) (hh := hh) (bytes := bytes) (maxL := maxL) (ret := ret) ho hl hin hse hcode hy hK (by rw [hT]; exact hcB) hoB hclB hg (hsize.trans hml.symm) (argsL := As) (rest := rest) (fun sig h => hn.trans (hlen sig h)) hstack hW (by rw [hb]; exact hdg)
    (fun vm₁ hW₁ => ⟨hf.1, hf.2, hPc (T.setVm vm₁) hT hW₁⟩) with ⟨v, vm₁, ⟨U', l2, c2, s2⟩, hW₁, X', ⟨g', mk, t, L, e1, e2, hq, h1, hL, h2, h3⟩, st⟩ | ⟨q, vm₁, ⟨U', l2, c2, s2⟩, hW₁, X', ⟨g', mk, t, L, E, ce, e1, e2, hq, hce, hcv, hcl, h1, hL, h2, h3⟩, st⟩
  · dsimp only [Pt.U, Pt.locs, Pt.cells, Pt.slots] at X' e1 e2 h1 h2 h3 st
    subst h1; subst h2; subst h3
    exact Or.inl ⟨v, (T.setVm vm₁).calling g' mk (Value.ref b :: As).toArray, t, U', L, hT, X', hL, e1, e2, hq, st⟩
  · dsimp only [Pt.U, Pt.locs, Pt.cells, Pt.slots] at X' e1 e2 h1 h2 h3 st hcl
    subst h1; subst h2; subst h3
    exact Or.inr ⟨q, (T.setVm vm₁).calling g' mk (Value.ref b :: As).toArray, t, U', L, E, ce, hT, X', hL, e1, e2, hq, hce, hcv, vx_cls hW₁ hcl, st⟩
theorem vx_runSX {hh : List (Nat × Nat × Nat × Nat)} (S : CallFix p m c cc nL s args Ts own) (hM : vx_Met l y ws rm Pc Qc XC mc ms free) (cw : vx_CSW R s args own index y bytes maxL ret hh ws rm mc ms n) (hp : PreS s H Pc As)
    (hg : g.method = m) (hn : As.length = n) (hsize : g.locals.size = nL) (hstack : g.stack = As.reverse ++ rest) (hW : 2 * g.monitorRoom + (rest.map fun v => v.category).sum ≤ 8) (hdg : decode cc g.pc = .ok (.invokestatic index, 3)) (hf : cells + mc ≤ R.cells ∧ slots + ms ≤ R.slots) :
    vx_Run p l e R s m args below meth c H locs cells slots mc ms g rest (Qc As.toArray) XC free := by
  obtain ⟨⟨hrc, hrs, hfr, hlo, hws, hcw⟩, hcode, hini, hy, hlen, hl, hstt⟩ := cw
  have hK : vx_Back l R p e below s args y 3 8 (PreOf R mc ms Pc) (PostOf Qc mc ms free) (vx_Post XC mc ms free) := vx_backW (hh := hh) (bytes := bytes) (maxL := maxL) (ret := ret) hM hp.1 hrc hrs hfr hlo hws hcw (fun a' U hW => word_at hW (Or.inl (by first | rfl | simp [Cond.onTables, Cond.keeps, Cond.steady])) hini)
  obtain ⟨hx, hb, hml, ho, -⟩ := S
  intro T hT X
  rcases vx_callSX X hx (hh := hh) (bytes := bytes) (maxL := maxL) (ret := ret) ho hl hstt hini hcode hy hK hg (hsize.trans hml.symm) (argsL := As) (rest := rest) (fun sig h => hn.trans (hlen sig h)) hstack hW (by rw [hb]; exact hdg)
    (fun vm₁ hW₁ => ⟨hf.1, hf.2, hp.2 (T.setVm vm₁) hT hW₁⟩) with ⟨v, vm₁, ⟨U', l2, c2, s2⟩, hW₁, X', ⟨g', mk, t, L, e1, e2, hq, h1, hL, h2, h3⟩, st⟩ | ⟨q, vm₁, ⟨U', l2, c2, s2⟩, hW₁, X', ⟨g', mk, t, L, E, ce, e1, e2, hq, hce, hcv, hcl, h1, hL, h2, h3⟩, st⟩
  · dsimp only [Pt.U, Pt.locs, Pt.cells, Pt.slots] at X' e1 e2 h1 h2 h3 st
    subst h1; subst h2; subst h3
    exact Or.inl ⟨v, (T.setVm vm₁).calling g' mk As.toArray, t, U', L, hT, X', hL, e1, e2, hq, st⟩
  · dsimp only [Pt.U, Pt.locs, Pt.cells, Pt.slots] at X' e1 e2 h1 h2 h3 st hcl
    subst h1; subst h2; subst h3
    exact Or.inr ⟨q, (T.setVm vm₁).calling g' mk As.toArray, t, U', L, E, ce, hT, X', hL, e1, e2, hq, hce, hcv, vx_cls hW₁ hcl, st⟩
end
end VXH
theorem vx_ofWH {l : Launch} {y : MethodName} {ws ws' : List Cond} {rm : Room} {Pc : Array Value → State → Prop} {Qc : Array Value → State → Outcome → State → Prop} {XC : String → State → State → Prop} {mc ms : Nat} {free : Addr → Prop} {cc : ByteArray} {maxL : Nat} {ret : Option FieldType} {hh : List (Nat × Nat × Nat × Nat)}
    (hy : plainName y.cls = true) (hw : ws = Cond.codeWith y cc maxL ret hh :: ws')
    (body : ∀ p e s m args below meth c s₁, BodyLoose p l y (headSpec ws rm) cc maxL ret e s m args below meth c s₁ → c.maxLocals = maxL → Pc args s →
      W p l e (headSpec ws rm).room s m args below meth c s.heap [] 0 0 (vx_MQ below Qc XC args s mc ms free) (entryFrame m args maxL)) : vx_Met l y ws rm Pc Qc XC mc ms free := by
  refine MetFree.of_bodyS (code := cc) (maxLocals := maxL) (ret := ret) hy ?_ ?_
  · intro args s m h hn
    obtain ⟨m9, meth, c, hn9, h1, h2, h3, h4, -, h5, h6, -⟩ := Cond.codeWith_spec (atoms_spec (ws := ws) h _ (by rw [hw]; exact List.mem_cons_self))
    cases hn.symm.trans hn9
    exact ⟨meth, c, h1, h2, h3, h4, h5, h6⟩
  · intro p e s m args below meth c s₁ B hml hP _
    have hh0 : s₁.heap = s.heap := by rw [B.state]; rfl
    obtain ⟨t, a1, o, b1, b2, b3⟩ := body p e s m args below meth c s₁ B hml hP s₁ hh0 (Stand.of_body B)
    exact ⟨t, o, a1, b1, b2, b3⟩
/-! ===== END ===== -/
end
section
def RX0 : String := "Springleaf$Fold"
def TX0 : u_T := fun k => match k with
  | 0 => ("Springleaf$Fold", "number", "I", true)
  | 1 => ("Springleaf$Fold", "on", "LSpringleaf$Fold;", true)
  | 2 => ("Springleaf$Fold", "pull", "I", true)
  | 3 => ("Springleaf$Fold", "lean", "I", true)
  | 4 => ("Springleaf$Fold", "angle", "I", false)
  | 5 => ("Springleaf$Fold", "pulled", "I", false)
  | _ => ("Springleaf$Fold", "growth", "I", false)
def tyX0 : Nat → FieldType := fun k => match k with
  | 0 => .int
  | 1 => .object "Springleaf$Fold"
  | 2 => .int
  | 3 => .int
  | 4 => .int
  | 5 => .int
  | _ => .int
abbrev wsX00 : List Cond := u_ws RX0 TX0 7
theorem nmX0 : ∀ a, a < 7 → ∀ b, b < 7 → a ≠ b → (TX0 a).2.1 ≠ (TX0 b).2.1 := by decide +kernel
theorem tyX0_ok : ∀ k, k < 7 → parseFieldDescriptor (TX0 k).2.2.1 = some (tyX0 k) := by decide +kernel
abbrev cX0_init : ByteArray := prog_2_method_1_code
def yX0_init : MethodName := ⟨RX0, "<init>", "(ILSpringleaf$Fold;II)V"⟩
abbrev cX0_openTo : ByteArray := prog_2_method_2_code
def yX0_openTo : MethodName := ⟨RX0, "openTo", "(I)V"⟩
abbrev cX0_openOneDegree : ByteArray := prog_2_method_3_code
def yX0_openOneDegree : MethodName := ⟨RX0, "openOneDegree", "()V"⟩
abbrev cX0_angleOfPulled : ByteArray := prog_2_method_4_code
def yX0_angleOfPulled : MethodName := ⟨RX0, "angleOfPulled", "()I"⟩
abbrev cX0_tellTo : ByteArray := prog_2_method_5_code
def yX0_tellTo : MethodName := ⟨RX0, "tellTo", "(Ljava/lang/StringBuilder;)V"⟩
def RX3 : String := "Springleaf$Part"
def TX3 : u_T := fun k => match k with
  | 0 => ("Springleaf$Part", "fold", "LSpringleaf$Fold;", true)
  | 1 => ("Springleaf$Part", "place", "I", true)
  | 2 => ("Springleaf$Part", "line", "I", true)
  | 3 => ("Springleaf$Part", "lines", "I", true)
  | 4 => ("Springleaf$Part", "eases", "Z", true)
  | 5 => ("Springleaf$Part", "length", "I", false)
  | 6 => ("Springleaf$Part", "step", "I", false)
  | 7 => ("Springleaf$Part", "sheet", "I", false)
  | 8 => ("Springleaf$Part", "left", "I", false)
  | 9 => ("Springleaf$Part", "top", "I", false)
  | 10 => ("Springleaf$Part", "shelfHeight", "I", false)
  | _ => ("Springleaf$Part", "shelfFilled", "I", false)
def tyX3 : Nat → FieldType := fun k => match k with
  | 0 => .object "Springleaf$Fold"
  | 1 => .int
  | 2 => .int
  | 3 => .int
  | 4 => .boolean
  | 5 => .int
  | 6 => .int
  | 7 => .int
  | 8 => .int
  | 9 => .int
  | 10 => .int
  | _ => .int
abbrev wsX30 : List Cond := u_ws RX3 TX3 12
theorem nmX3 : ∀ a, a < 12 → ∀ b, b < 12 → a ≠ b → (TX3 a).2.1 ≠ (TX3 b).2.1 := by decide +kernel
theorem tyX3_ok : ∀ k, k < 12 → parseFieldDescriptor (TX3 k).2.2.1 = some (tyX3 k) := by decide +kernel
abbrev cX3_init : ByteArray := prog_3_method_1_code
def yX3_init : MethodName := ⟨RX3, "<init>", "(LSpringleaf$Fold;IIIIZ)V"⟩
abbrev cX3_isGlued : ByteArray := prog_3_method_2_code
def yX3_isGlued : MethodName := ⟨RX3, "isGlued", "()Z"⟩
abbrev cX3_rise : ByteArray := prog_3_method_3_code
def yX3_rise : MethodName := ⟨RX3, "rise", "()I"⟩
abbrev cX3_reach : ByteArray := prog_3_method_4_code
def yX3_reach : MethodName := ⟨RX3, "reach", "()I"⟩
abbrev cX3_spanStart : ByteArray := prog_3_method_5_code
def yX3_spanStart : MethodName := ⟨RX3, "spanStart", "()I"⟩
abbrev cX3_spanEnd : ByteArray := prog_3_method_6_code
def yX3_spanEnd : MethodName := ⟨RX3, "spanEnd", "()I"⟩
abbrev cX3_sharesLineWith : ByteArray := prog_3_method_7_code
def yX3_sharesLineWith : MethodName := ⟨RX3, "sharesLineWith", "(LSpringleaf$Part;)Z"⟩
abbrev cX3_meets : ByteArray := prog_3_method_8_code
def yX3_meets : MethodName := ⟨RX3, "meets", "(LSpringleaf$Part;)Z"⟩
abbrev cX3_coversStartOf : ByteArray := prog_3_method_9_code
def yX3_coversStartOf : MethodName := ⟨RX3, "coversStartOf", "(LSpringleaf$Part;)Z"⟩
abbrev cX3_pieceWidth : ByteArray := prog_3_method_10_code
def yX3_pieceWidth : MethodName := ⟨RX3, "pieceWidth", "()I"⟩
abbrev cX3_pieceHeight : ByteArray := prog_3_method_11_code
def yX3_pieceHeight : MethodName := ⟨RX3, "pieceHeight", "()I"⟩
def RX4 : String := "Springleaf"
def TX4 : u_T := fun k => match k with
  | 0 => ("Springleaf", "folds", "Ljava/util/ArrayList;", true)
  | 1 => ("Springleaf", "parts", "Ljava/util/ArrayList;", true)
  | 2 => ("Springleaf", "told", "Ljava/lang/StringBuilder;", true)
  | 3 => ("Springleaf", "gluedCount", "I", false)
  | _ => ("Springleaf", "sheetCount", "I", false)
def tyX4 : Nat → FieldType := fun k => match k with
  | 0 => .object "java/util/ArrayList"
  | 1 => .object "java/util/ArrayList"
  | 2 => .object "java/lang/StringBuilder"
  | 3 => .int
  | _ => .int
abbrev wsX40 : List Cond := u_ws RX4 TX4 5
theorem nmX4 : ∀ a, a < 5 → ∀ b, b < 5 → a ≠ b → (TX4 a).2.1 ≠ (TX4 b).2.1 := by decide +kernel
theorem tyX4_ok : ∀ k, k < 5 → parseFieldDescriptor (TX4 k).2.2.1 = some (tyX4 k) := by decide +kernel
abbrev cX4_init : ByteArray := prog_1_method_1_code
def yX4_init : MethodName := ⟨RX4, "<init>", "()V"⟩
abbrev cX4_fold : ByteArray := prog_1_method_2_code
def yX4_fold : MethodName := ⟨RX4, "fold", "(III)I"⟩
abbrev cX4_part : ByteArray := prog_1_method_3_code
def yX4_part : MethodName := ⟨RX4, "part", "(IIIIIZ)I"⟩
abbrev cX4_angle : ByteArray := prog_1_method_4_code
def yX4_angle : MethodName := ⟨RX4, "angle", "(II)I"⟩
abbrev cX4_angleAnew : ByteArray := prog_1_method_5_code
def yX4_angleAnew : MethodName := ⟨RX4, "angleAnew", "(II)I"⟩
abbrev cX4_where : ByteArray := prog_1_method_6_code
def yX4_where : MethodName := ⟨RX4, "where", "(III)I"⟩
abbrev cX4_meet : ByteArray := prog_1_method_7_code
def yX4_meet : MethodName := ⟨RX4, "meet", "(III)Z"⟩
abbrev cX4_test : ByteArray := prog_1_method_8_code
def yX4_test : MethodName := ⟨RX4, "test", "()I"⟩
abbrev cX4_sheets : ByteArray := prog_1_method_9_code
def yX4_sheets : MethodName := ⟨RX4, "sheets", "()I"⟩
abbrev cX4_laid : ByteArray := prog_1_method_10_code
def yX4_laid : MethodName := ⟨RX4, "laid", "(II)I"⟩
abbrev cX4_glue : ByteArray := prog_1_method_11_code
def yX4_glue : MethodName := ⟨RX4, "glue", "(I)I"⟩
abbrev cX4_unglue : ByteArray := prog_1_method_12_code
def yX4_unglue : MethodName := ⟨RX4, "unglue", "()I"⟩
abbrev cX4_glued : ByteArray := prog_1_method_13_code
def yX4_glued : MethodName := ⟨RX4, "glued", "(I)I"⟩
abbrev cX4_resize : ByteArray := prog_1_method_14_code
def yX4_resize : MethodName := ⟨RX4, "resize", "(II)I"⟩
abbrev cX4_isBound : ByteArray := prog_1_method_15_code
def yX4_isBound : MethodName := ⟨RX4, "isBound", "()Z"⟩
abbrev cX4_tells : ByteArray := prog_1_method_16_code
def yX4_tells : MethodName := ⟨RX4, "tells", "(II)C"⟩
abbrev cX4_requireFold : ByteArray := prog_1_method_17_code
def yX4_requireFold : MethodName := ⟨RX4, "requireFold", "(I)V"⟩
abbrev cX4_requirePart : ByteArray := prog_1_method_18_code
def yX4_requirePart : MethodName := ⟨RX4, "requirePart", "(I)V"⟩
abbrev cX4_requireOpen : ByteArray := prog_1_method_19_code
def yX4_requireOpen : MethodName := ⟨RX4, "requireOpen", "(I)V"⟩
abbrev cX4_requireWhat : ByteArray := prog_1_method_20_code
def yX4_requireWhat : MethodName := ⟨RX4, "requireWhat", "(I)V"⟩
abbrev cX4_requireLength : ByteArray := prog_1_method_21_code
def yX4_requireLength : MethodName := ⟨RX4, "requireLength", "(I)V"⟩
abbrev cX4_isOutside : ByteArray := prog_1_method_22_code
def yX4_isOutside : MethodName := ⟨RX4, "isOutside", "(III)Z"⟩
abbrev cX4_openTo : ByteArray := prog_1_method_23_code
def yX4_openTo : MethodName := ⟨RX4, "openTo", "(I)V"⟩
abbrev cX4_openByDegreesTo : ByteArray := prog_1_method_24_code
def yX4_openByDegreesTo : MethodName := ⟨RX4, "openByDegreesTo", "(I)V"⟩
abbrev cX4_tellAll : ByteArray := prog_1_method_25_code
def yX4_tellAll : MethodName := ⟨RX4, "tellAll", "(LSpringleaf$Fold;)V"⟩
abbrev cX4_firstThatMeetsAnother : ByteArray := prog_1_method_26_code
def yX4_firstThatMeetsAnother : MethodName := ⟨RX4, "firstThatMeetsAnother", "()I"⟩
abbrev cX4_isStartCovered : ByteArray := prog_1_method_27_code
def yX4_isStartCovered : MethodName := ⟨RX4, "isStartCovered", "(LSpringleaf$Part;)Z"⟩
abbrev cX4_hasHold : ByteArray := prog_1_method_28_code
def yX4_hasHold : MethodName := ⟨RX4, "hasHold", "(LSpringleaf$Part;)Z"⟩
abbrev cX4_partGluedAt : ByteArray := prog_1_method_29_code
def yX4_partGluedAt : MethodName := ⟨RX4, "partGluedAt", "(I)I"⟩
abbrev cX4_unglueFrom : ByteArray := prog_1_method_30_code
def yX4_unglueFrom : MethodName := ⟨RX4, "unglueFrom", "(I)I"⟩
abbrev cX4_layAllParts : ByteArray := prog_1_method_31_code
def yX4_layAllParts : MethodName := ⟨RX4, "layAllParts", "()V"⟩
abbrev cX4_lay : ByteArray := prog_1_method_32_code
def yX4_lay : MethodName := ⟨RX4, "lay", "(LSpringleaf$Part;)V"⟩
abbrev cX4_firstOfShelfFor : ByteArray := prog_1_method_33_code
def yX4_firstOfShelfFor : MethodName := ⟨RX4, "firstOfShelfFor", "(LSpringleaf$Part;)LSpringleaf$Part;"⟩
abbrev cX4_beginShelf : ByteArray := prog_1_method_34_code
def yX4_beginShelf : MethodName := ⟨RX4, "beginShelf", "(LSpringleaf$Part;)V"⟩
abbrev cX4_sheetForShelf : ByteArray := prog_1_method_35_code
def yX4_sheetForShelf : MethodName := ⟨RX4, "sheetForShelf", "(I)I"⟩
abbrev cX4_filledHeight : ByteArray := prog_1_method_36_code
def yX4_filledHeight : MethodName := ⟨RX4, "filledHeight", "(I)I"⟩
def RX5 : String := "SpringleafModel"
def TX5 : u_T := fun k => match k with
  | 0 => ("SpringleafModel", "fo", "[I", true)
  | 1 => ("SpringleafModel", "fl", "[I", true)
  | 2 => ("SpringleafModel", "fn", "[I", true)
  | 3 => ("SpringleafModel", "folds", "I", false)
  | 4 => ("SpringleafModel", "pf", "[I", true)
  | 5 => ("SpringleafModel", "pp", "[I", true)
  | 6 => ("SpringleafModel", "pl", "[I", true)
  | 7 => ("SpringleafModel", "pb", "[I", true)
  | 8 => ("SpringleafModel", "pn", "[I", true)
  | 9 => ("SpringleafModel", "pe", "[I", true)
  | 10 => ("SpringleafModel", "parts", "I", false)
  | 11 => ("SpringleafModel", "order", "[I", true)
  | 12 => ("SpringleafModel", "glued", "I", false)
  | 13 => ("SpringleafModel", "ss", "[I", true)
  | 14 => ("SpringleafModel", "st", "[I", true)
  | 15 => ("SpringleafModel", "sh", "[I", true)
  | 16 => ("SpringleafModel", "su", "[I", true)
  | 17 => ("SpringleafModel", "shelves", "I", false)
  | 18 => ("SpringleafModel", "used", "[I", true)
  | 19 => ("SpringleafModel", "sheets", "I", false)
  | 20 => ("SpringleafModel", "ps", "[I", true)
  | 21 => ("SpringleafModel", "px", "[I", true)
  | 22 => ("SpringleafModel", "py", "[I", true)
  | 23 => ("SpringleafModel", "way", "[I", true)
  | _ => ("SpringleafModel", "thrown", "I", false)
def tyX5 : Nat → FieldType := fun k => match k with
  | 0 => .array .int
  | 1 => .array .int
  | 2 => .array .int
  | 3 => .int
  | 4 => .array .int
  | 5 => .array .int
  | 6 => .array .int
  | 7 => .array .int
  | 8 => .array .int
  | 9 => .array .int
  | 10 => .int
  | 11 => .array .int
  | 12 => .int
  | 13 => .array .int
  | 14 => .array .int
  | 15 => .array .int
  | 16 => .array .int
  | 17 => .int
  | 18 => .array .int
  | 19 => .int
  | 20 => .array .int
  | 21 => .array .int
  | 22 => .array .int
  | 23 => .array .int
  | _ => .int
abbrev wsX50 : List Cond := u_ws RX5 TX5 25
theorem nmX5 : ∀ a, a < 25 → ∀ b, b < 25 → a ≠ b → (TX5 a).2.1 ≠ (TX5 b).2.1 := by decide +kernel
theorem tyX5_ok : ∀ k, k < 25 → parseFieldDescriptor (TX5 k).2.2.1 = some (tyX5 k) := by decide +kernel
abbrev cX5_init : ByteArray := prog_5_method_1_code
def yX5_init : MethodName := ⟨RX5, "<init>", "()V"⟩
abbrev cX5_thrown : ByteArray := prog_5_method_2_code
def yX5_thrown : MethodName := ⟨RX5, "thrown", "()I"⟩
abbrev cX5_holds : ByteArray := prog_5_method_3_code
def yX5_holds : MethodName := ⟨RX5, "holds", "(I)Z"⟩
abbrev cX5_in : ByteArray := prog_5_method_4_code
def yX5_in : MethodName := ⟨RX5, "in", "(III)Z"⟩
abbrev cX5_isFold : ByteArray := prog_5_method_5_code
def yX5_isFold : MethodName := ⟨RX5, "isFold", "(I)Z"⟩
abbrev cX5_isPart : ByteArray := prog_5_method_6_code
def yX5_isPart : MethodName := ⟨RX5, "isPart", "(I)Z"⟩
abbrev cX5_down : ByteArray := prog_5_method_7_code
def yX5_down : MethodName := ⟨RX5, "down", "(II)I"⟩
abbrev cX5_angleOf : ByteArray := prog_5_method_8_code
def yX5_angleOf : MethodName := ⟨RX5, "angleOf", "(II)I"⟩
abbrev cX5_bound : ByteArray := prog_5_method_9_code
def yX5_bound : MethodName := ⟨RX5, "bound", "()Z"⟩
abbrev cX5_fold : ByteArray := prog_5_method_10_code
def yX5_fold : MethodName := ⟨RX5, "fold", "(III)I"⟩
abbrev cX5_part : ByteArray := prog_5_method_11_code
def yX5_part : MethodName := ⟨RX5, "part", "(IIIIIZ)I"⟩
abbrev cX5_angle : ByteArray := prog_5_method_12_code
def yX5_angle : MethodName := ⟨RX5, "angle", "(II)I"⟩
abbrev cX5_angleAnew : ByteArray := prog_5_method_13_code
def yX5_angleAnew : MethodName := ⟨RX5, "angleAnew", "(II)I"⟩
abbrev cX5_rises : ByteArray := prog_5_method_14_code
def yX5_rises : MethodName := ⟨RX5, "rises", "(II)I"⟩
abbrev cX5_reach : ByteArray := prog_5_method_15_code
def yX5_reach : MethodName := ⟨RX5, "reach", "(II)I"⟩
abbrev cX5_low : ByteArray := prog_5_method_16_code
def yX5_low : MethodName := ⟨RX5, "low", "(II)I"⟩
abbrev cX5_high : ByteArray := prog_5_method_17_code
def yX5_high : MethodName := ⟨RX5, "high", "(II)I"⟩
abbrev cX5_share : ByteArray := prog_5_method_18_code
def yX5_share : MethodName := ⟨RX5, "share", "(II)Z"⟩
abbrev cX5_meets : ByteArray := prog_5_method_19_code
def yX5_meets : MethodName := ⟨RX5, "meets", "(III)Z"⟩
abbrev cX5_where : ByteArray := prog_5_method_20_code
def yX5_where : MethodName := ⟨RX5, "where", "(III)I"⟩
abbrev cX5_meet : ByteArray := prog_5_method_21_code
def yX5_meet : MethodName := ⟨RX5, "meet", "(III)Z"⟩
abbrev cX5_tests : ByteArray := prog_5_method_22_code
def yX5_tests : MethodName := ⟨RX5, "tests", "()I"⟩
abbrev cX5_test : ByteArray := prog_5_method_23_code
def yX5_test : MethodName := ⟨RX5, "test", "()I"⟩
abbrev cX5_wide : ByteArray := prog_5_method_24_code
def yX5_wide : MethodName := ⟨RX5, "wide", "(I)I"⟩
abbrev cX5_tall : ByteArray := prog_5_method_25_code
def yX5_tall : MethodName := ⟨RX5, "tall", "(I)I"⟩
abbrev cX5_shelfFor : ByteArray := prog_5_method_26_code
def yX5_shelfFor : MethodName := ⟨RX5, "shelfFor", "(I)I"⟩
abbrev cX5_newShelf : ByteArray := prog_5_method_27_code
def yX5_newShelf : MethodName := ⟨RX5, "newShelf", "(I)I"⟩
abbrev cX5_lays : ByteArray := prog_5_method_28_code
def yX5_lays : MethodName := ⟨RX5, "lays", "()V"⟩
abbrev cX5_sheets : ByteArray := prog_5_method_29_code
def yX5_sheets : MethodName := ⟨RX5, "sheets", "()I"⟩
abbrev cX5_laid : ByteArray := prog_5_method_30_code
def yX5_laid : MethodName := ⟨RX5, "laid", "(II)I"⟩
abbrev cX5_stepOf : ByteArray := prog_5_method_31_code
def yX5_stepOf : MethodName := ⟨RX5, "stepOf", "(I)I"⟩
abbrev cX5_canGlue : ByteArray := prog_5_method_32_code
def yX5_canGlue : MethodName := ⟨RX5, "canGlue", "(I)Z"⟩
abbrev cX5_glue : ByteArray := prog_5_method_33_code
def yX5_glue : MethodName := ⟨RX5, "glue", "(I)I"⟩
abbrev cX5_unglue : ByteArray := prog_5_method_34_code
def yX5_unglue : MethodName := ⟨RX5, "unglue", "()I"⟩
abbrev cX5_glued : ByteArray := prog_5_method_35_code
def yX5_glued : MethodName := ⟨RX5, "glued", "(I)I"⟩
abbrev cX5_resize : ByteArray := prog_5_method_36_code
def yX5_resize : MethodName := ⟨RX5, "resize", "(II)I"⟩
abbrev cX5_isBound : ByteArray := prog_5_method_37_code
def yX5_isBound : MethodName := ⟨RX5, "isBound", "()Z"⟩
abbrev cX5_digits : ByteArray := prog_5_method_38_code
def yX5_digits : MethodName := ⟨RX5, "digits", "(I)I"⟩
abbrev cX5_digit : ByteArray := prog_5_method_39_code
def yX5_digit : MethodName := ⟨RX5, "digit", "(II)C"⟩
abbrev cX5_flat : ByteArray := prog_5_method_40_code
def yX5_flat : MethodName := ⟨RX5, "flat", "(I)I"⟩
abbrev cX5_signs : ByteArray := prog_5_method_41_code
def yX5_signs : MethodName := ⟨RX5, "signs", "(I)I"⟩
abbrev cX5_sign : ByteArray := prog_5_method_42_code
def yX5_sign : MethodName := ⟨RX5, "sign", "(II)C"⟩
abbrev cX5_tells : ByteArray := prog_5_method_43_code
def yX5_tells : MethodName := ⟨RX5, "tells", "(II)C"⟩
def RJx145de : String := "java/io/Serializable"
def TJx145de : u_T := fun k => match k with
  | _ => ("", "", "", false)
def tyJx145de : Nat → FieldType := fun k => match k with
  | _ => .int
abbrev wsJx145de0 : List Cond := u_ws RJx145de TJx145de 0
theorem nmJx145de : ∀ a, a < 0 → ∀ b, b < 0 → a ≠ b → (TJx145de a).2.1 ≠ (TJx145de b).2.1 := by decide +kernel
theorem tyJx145de_ok : ∀ k, k < 0 → parseFieldDescriptor (TJx145de k).2.2.1 = some (tyJx145de k) := by decide +kernel
def RJ5 : String := "java/lang/AbstractStringBuilder"
def TJ5 : u_T := fun k => match k with
  | _ => ("", "", "", false)
def tyJ5 : Nat → FieldType := fun k => match k with
  | _ => .int
abbrev wsJ50 : List Cond := u_ws RJ5 TJ5 0
theorem nmJ5 : ∀ a, a < 0 → ∀ b, b < 0 → a ≠ b → (TJ5 a).2.1 ≠ (TJ5 b).2.1 := by decide +kernel
theorem tyJ5_ok : ∀ k, k < 0 → parseFieldDescriptor (TJ5 k).2.2.1 = some (tyJ5 k) := by decide +kernel
abbrev cJ5_init_d00df : ByteArray := prog_7_method_2_code
def yJ5_init_d00df : MethodName := ⟨RJ5, "<init>", "(I)V"⟩
abbrev cJ5_length_8abf5 : ByteArray := prog_7_method_6_code
def yJ5_length_8abf5 : MethodName := ⟨RJ5, "length", "()I"⟩
abbrev cJ5_ensureCapacityInternal_d00df : ByteArray := prog_7_method_9_code
def yJ5_ensureCapacityInternal_d00df : MethodName := ⟨RJ5, "ensureCapacityInternal", "(I)V"⟩
abbrev cJ5_newCapacity_0f7a4 : ByteArray := prog_7_method_10_code
def yJ5_newCapacity_0f7a4 : MethodName := ⟨RJ5, "newCapacity", "(I)I"⟩
abbrev cJ5_inflate_da8c8 : ByteArray := prog_7_method_11_code
def yJ5_inflate_da8c8 : MethodName := ⟨RJ5, "inflate", "()V"⟩
abbrev cJ5_setLength_d00df : ByteArray := prog_7_method_13_code
def yJ5_setLength_d00df : MethodName := ⟨RJ5, "setLength", "(I)V"⟩
abbrev cJ5_charAt_5068e : ByteArray := prog_7_method_14_code
def yJ5_charAt_5068e : MethodName := ⟨RJ5, "charAt", "(I)C"⟩
abbrev cJ5_append_cf1ce : ByteArray := prog_7_method_22_code
def yJ5_append_cf1ce : MethodName := ⟨RJ5, "append", "(Ljava/lang/String;)Ljava/lang/AbstractStringBuilder;"⟩
abbrev cJ5_appendNull_278bc : ByteArray := prog_7_method_26_code
def yJ5_appendNull_278bc : MethodName := ⟨RJ5, "appendNull", "()Ljava/lang/AbstractStringBuilder;"⟩
abbrev cJ5_append_3fe6f : ByteArray := prog_7_method_31_code
def yJ5_append_3fe6f : MethodName := ⟨RJ5, "append", "(C)Ljava/lang/AbstractStringBuilder;"⟩
abbrev cJ5_append_c97b9 : ByteArray := prog_7_method_32_code
def yJ5_append_c97b9 : MethodName := ⟨RJ5, "append", "(I)Ljava/lang/AbstractStringBuilder;"⟩
abbrev cJ5_getValue_6d5f1 : ByteArray := prog_7_method_64_code
def yJ5_getValue_6d5f1 : MethodName := ⟨RJ5, "getValue", "()[B"⟩
abbrev cJ5_isLatin1_aae02 : ByteArray := prog_7_method_68_code
def yJ5_isLatin1_aae02 : MethodName := ⟨RJ5, "isLatin1", "()Z"⟩
abbrev cJ5_inflateIfNeededFor_a7421 : ByteArray := prog_7_method_71_code
def yJ5_inflateIfNeededFor_a7421 : MethodName := ⟨RJ5, "inflateIfNeededFor", "(Ljava/lang/String;)V"⟩
abbrev cJ5_putStringAt_47b60 : ByteArray := prog_7_method_73_code
def yJ5_putStringAt_47b60 : MethodName := ⟨RJ5, "putStringAt", "(ILjava/lang/String;)V"⟩
def RJx2cfe8 : String := "java/lang/Appendable"
def TJx2cfe8 : u_T := fun k => match k with
  | _ => ("", "", "", false)
def tyJx2cfe8 : Nat → FieldType := fun k => match k with
  | _ => .int
abbrev wsJx2cfe80 : List Cond := u_ws RJx2cfe8 TJx2cfe8 0
theorem nmJx2cfe8 : ∀ a, a < 0 → ∀ b, b < 0 → a ≠ b → (TJx2cfe8 a).2.1 ≠ (TJx2cfe8 b).2.1 := by decide +kernel
theorem tyJx2cfe8_ok : ∀ k, k < 0 → parseFieldDescriptor (TJx2cfe8 k).2.2.1 = some (tyJx2cfe8 k) := by decide +kernel
def RJx00060 : String := "java/lang/ArrayIndexOutOfBoundsException"
def TJx00060 : u_T := fun k => match k with
  | 0 => ("java/lang/Throwable", "cause", "Ljava/lang/Throwable;", false)
  | 1 => ("java/lang/Throwable", "stackTrace", "[Ljava/lang/StackTraceElement;", false)
  | 2 => ("java/lang/Throwable", "suppressedExceptions", "Ljava/util/List;", false)
  | 3 => ("java/lang/Throwable", "detailMessage", "Ljava/lang/String;", false)
  | 4 => ("java/lang/Throwable", "backtrace", "Ljava/lang/Object;", false)
  | _ => ("java/lang/Throwable", "depth", "I", false)
def tyJx00060 : Nat → FieldType := fun k => match k with
  | 0 => .object "java/lang/Throwable"
  | 1 => .array (.object "java/lang/StackTraceElement")
  | 2 => .object "java/util/List"
  | 3 => .object "java/lang/String"
  | 4 => .object "java/lang/Object"
  | _ => .int
abbrev wsJx000600 : List Cond := u_ws RJx00060 TJx00060 6
theorem nmJx00060 : ∀ a, a < 6 → ∀ b, b < 6 → a ≠ b → (TJx00060 a).2.1 ≠ (TJx00060 b).2.1 := by decide +kernel
theorem tyJx00060_ok : ∀ k, k < 6 → parseFieldDescriptor (TJx00060 k).2.2.1 = some (tyJx00060 k) := by decide +kernel
abbrev cJx00060_init_d00df : ByteArray := prog_9_method_3_code
def yJx00060_init_d00df : MethodName := ⟨RJx00060, "<init>", "(I)V"⟩
def RJx9f9b0 : String := "java/lang/CharSequence"
def TJx9f9b0 : u_T := fun k => match k with
  | _ => ("", "", "", false)
def tyJx9f9b0 : Nat → FieldType := fun k => match k with
  | _ => .int
abbrev wsJx9f9b00 : List Cond := u_ws RJx9f9b0 TJx9f9b0 0
theorem nmJx9f9b0 : ∀ a, a < 0 → ∀ b, b < 0 → a ≠ b → (TJx9f9b0 a).2.1 ≠ (TJx9f9b0 b).2.1 := by decide +kernel
theorem tyJx9f9b0_ok : ∀ k, k < 0 → parseFieldDescriptor (TJx9f9b0 k).2.2.1 = some (tyJx9f9b0 k) := by decide +kernel
def RJx8e188 : String := "java/lang/Cloneable"
def TJx8e188 : u_T := fun k => match k with
  | _ => ("", "", "", false)
def tyJx8e188 : Nat → FieldType := fun k => match k with
  | _ => .int
abbrev wsJx8e1880 : List Cond := u_ws RJx8e188 TJx8e188 0
theorem nmJx8e188 : ∀ a, a < 0 → ∀ b, b < 0 → a ≠ b → (TJx8e188 a).2.1 ≠ (TJx8e188 b).2.1 := by decide +kernel
theorem tyJx8e188_ok : ∀ k, k < 0 → parseFieldDescriptor (TJx8e188 k).2.2.1 = some (tyJx8e188 k) := by decide +kernel
def RJxb160c : String := "java/lang/Comparable"
def TJxb160c : u_T := fun k => match k with
  | _ => ("", "", "", false)
def tyJxb160c : Nat → FieldType := fun k => match k with
  | _ => .int
abbrev wsJxb160c0 : List Cond := u_ws RJxb160c TJxb160c 0
theorem nmJxb160c : ∀ a, a < 0 → ∀ b, b < 0 → a ≠ b → (TJxb160c a).2.1 ≠ (TJxb160c b).2.1 := by decide +kernel
theorem tyJxb160c_ok : ∀ k, k < 0 → parseFieldDescriptor (TJxb160c k).2.2.1 = some (tyJxb160c k) := by decide +kernel
def RJ6 : String := "java/lang/Integer"
def TJ6 : u_T := fun k => match k with
  | _ => ("", "", "", false)
def tyJ6 : Nat → FieldType := fun k => match k with
  | _ => .int
abbrev wsJ60 : List Cond := u_ws RJ6 TJ6 0
theorem nmJ6 : ∀ a, a < 0 → ∀ b, b < 0 → a ≠ b → (TJ6 a).2.1 ≠ (TJ6 b).2.1 := by decide +kernel
theorem tyJ6_ok : ∀ k, k < 0 → parseFieldDescriptor (TJ6 k).2.2.1 = some (tyJ6 k) := by decide +kernel
abbrev cJ6_getChars_ba4f3 : ByteArray := prog_17_method_12_code
def yJ6_getChars_ba4f3 : MethodName := ⟨RJ6, "getChars", "(II[B)I"⟩
abbrev cJ6_stringSize_0f7a4 : ByteArray := prog_17_method_13_code
def yJ6_stringSize_0f7a4 : MethodName := ⟨RJ6, "stringSize", "(I)I"⟩
def RJxab1ab : String := "java/lang/Iterable"
def TJxab1ab : u_T := fun k => match k with
  | _ => ("", "", "", false)
def tyJxab1ab : Nat → FieldType := fun k => match k with
  | _ => .int
abbrev wsJxab1ab0 : List Cond := u_ws RJxab1ab TJxab1ab 0
theorem nmJxab1ab : ∀ a, a < 0 → ∀ b, b < 0 → a ≠ b → (TJxab1ab a).2.1 ≠ (TJxab1ab b).2.1 := by decide +kernel
theorem tyJxab1ab_ok : ∀ k, k < 0 → parseFieldDescriptor (TJxab1ab k).2.2.1 = some (tyJxab1ab k) := by decide +kernel
def RJ9 : String := "java/lang/Math"
def TJ9 : u_T := fun k => match k with
  | _ => ("", "", "", false)
def tyJ9 : Nat → FieldType := fun k => match k with
  | _ => .int
abbrev wsJ90 : List Cond := u_ws RJ9 TJ9 0
theorem nmJ9 : ∀ a, a < 0 → ∀ b, b < 0 → a ≠ b → (TJ9 a).2.1 ≠ (TJ9 b).2.1 := by decide +kernel
theorem tyJ9_ok : ∀ k, k < 0 → parseFieldDescriptor (TJ9 k).2.2.1 = some (tyJ9 k) := by decide +kernel
abbrev cJ9_floorDiv_7cf53 : ByteArray := prog_19_method_47_code
def yJ9_floorDiv_7cf53 : MethodName := ⟨RJ9, "floorDiv", "(II)I"⟩
abbrev cJ9_abs_0f7a4 : ByteArray := prog_19_method_59_code
def yJ9_abs_0f7a4 : MethodName := ⟨RJ9, "abs", "(I)I"⟩
abbrev cJ9_max_7cf53 : ByteArray := prog_19_method_65_code
def yJ9_max_7cf53 : MethodName := ⟨RJ9, "max", "(II)I"⟩
abbrev cJ9_min_7cf53 : ByteArray := prog_19_method_69_code
def yJ9_min_7cf53 : MethodName := ⟨RJ9, "min", "(II)I"⟩
def RJxd2413 : String := "java/lang/Number"
def TJxd2413 : u_T := fun k => match k with
  | _ => ("", "", "", false)
def tyJxd2413 : Nat → FieldType := fun k => match k with
  | _ => .int
abbrev wsJxd24130 : List Cond := u_ws RJxd2413 TJxd2413 0
theorem nmJxd2413 : ∀ a, a < 0 → ∀ b, b < 0 → a ≠ b → (TJxd2413 a).2.1 ≠ (TJxd2413 b).2.1 := by decide +kernel
theorem tyJxd2413_ok : ∀ k, k < 0 → parseFieldDescriptor (TJxd2413 k).2.2.1 = some (tyJxd2413 k) := by decide +kernel
def RJ0 : String := "java/lang/String"
def TJ0 : u_T := fun k => match k with
  | 0 => ("java/lang/String", "value", "[B", true)
  | 1 => ("java/lang/String", "coder", "B", true)
  | 2 => ("java/lang/String", "hash", "I", false)
  | _ => ("java/lang/String", "hashIsZero", "Z", false)
def tyJ0 : Nat → FieldType := fun k => match k with
  | 0 => .array .byte
  | 1 => .byte
  | 2 => .int
  | _ => .boolean
abbrev wsJ00 : List Cond := u_ws RJ0 TJ0 4
theorem nmJ0 : ∀ a, a < 4 → ∀ b, b < 4 → a ≠ b → (TJ0 a).2.1 ≠ (TJ0 b).2.1 := by decide +kernel
theorem tyJ0_ok : ∀ k, k < 4 → parseFieldDescriptor (TJ0 k).2.2.1 = some (tyJ0 k) := by decide +kernel
abbrev cJ0_init_81219 : ByteArray := prog_22_method_53_code
def yJ0_init_81219 : MethodName := ⟨RJ0, "<init>", "(Ljava/lang/StringBuilder;)V"⟩
abbrev cJ0_length_8abf5 : ByteArray := prog_22_method_54_code
def yJ0_length_8abf5 : MethodName := ⟨RJ0, "length", "()I"⟩
abbrev cJ0_getBytes_840e7 : ByteArray := prog_22_method_147_code
def yJ0_getBytes_840e7 : MethodName := ⟨RJ0, "getBytes", "([BIB)V"⟩
abbrev cJ0_init_db425 : ByteArray := prog_22_method_150_code
def yJ0_init_db425 : MethodName := ⟨RJ0, "<init>", "(Ljava/lang/AbstractStringBuilder;Ljava/lang/Void;)V"⟩
abbrev cJ0_coder_7d493 : ByteArray := prog_22_method_152_code
def yJ0_coder_7d493 : MethodName := ⟨RJ0, "coder", "()B"⟩
abbrev cJ0_checkIndex_df160 : ByteArray := prog_22_method_155_code
def yJ0_checkIndex_df160 : MethodName := ⟨RJ0, "checkIndex", "(II)V"⟩
abbrev cJ0_checkBoundsOffCount_cabcc : ByteArray := prog_22_method_157_code
def yJ0_checkBoundsOffCount_cabcc : MethodName := ⟨RJ0, "checkBoundsOffCount", "(III)I"⟩
abbrev cJ0_checkBoundsBeginEnd_23922 : ByteArray := prog_22_method_158_code
def yJ0_checkBoundsBeginEnd_23922 : MethodName := ⟨RJ0, "checkBoundsBeginEnd", "(III)V"⟩
def RJ4 : String := "java/lang/StringBuilder"
def TJ4 : u_T := fun k => match k with
  | 0 => ("java/lang/AbstractStringBuilder", "value", "[B", false)
  | 1 => ("java/lang/AbstractStringBuilder", "coder", "B", false)
  | 2 => ("java/lang/AbstractStringBuilder", "maybeLatin1", "Z", false)
  | _ => ("java/lang/AbstractStringBuilder", "count", "I", false)
def tyJ4 : Nat → FieldType := fun k => match k with
  | 0 => .array .byte
  | 1 => .byte
  | 2 => .boolean
  | _ => .int
abbrev wsJ40 : List Cond := u_ws RJ4 TJ4 4
theorem nmJ4 : ∀ a, a < 4 → ∀ b, b < 4 → a ≠ b → (TJ4 a).2.1 ≠ (TJ4 b).2.1 := by decide +kernel
theorem tyJ4_ok : ∀ k, k < 4 → parseFieldDescriptor (TJ4 k).2.2.1 = some (tyJ4 k) := by decide +kernel
abbrev cJ4_init_da8c8 : ByteArray := prog_23_method_1_code
def yJ4_init_da8c8 : MethodName := ⟨RJ4, "<init>", "()V"⟩
abbrev cJ4_append_15ec4 : ByteArray := prog_23_method_7_code
def yJ4_append_15ec4 : MethodName := ⟨RJ4, "append", "(Ljava/lang/String;)Ljava/lang/StringBuilder;"⟩
abbrev cJ4_append_cf468 : ByteArray := prog_23_method_14_code
def yJ4_append_cf468 : MethodName := ⟨RJ4, "append", "(C)Ljava/lang/StringBuilder;"⟩
abbrev cJ4_append_bf812 : ByteArray := prog_23_method_15_code
def yJ4_append_bf812 : MethodName := ⟨RJ4, "append", "(I)Ljava/lang/StringBuilder;"⟩
abbrev cJ4_toString_0e30d : ByteArray := prog_23_method_42_code
def yJ4_toString_0e30d : MethodName := ⟨RJ4, "toString", "()Ljava/lang/String;"⟩
abbrev cJ4_charAt_5068e : ByteArray := prog_23_method_88_code
def yJ4_charAt_5068e : MethodName := ⟨RJ4, "charAt", "(I)C"⟩
abbrev cJ4_setLength_d00df : ByteArray := prog_23_method_89_code
def yJ4_setLength_d00df : MethodName := ⟨RJ4, "setLength", "(I)V"⟩
abbrev cJ4_length_8abf5 : ByteArray := prog_23_method_93_code
def yJ4_length_8abf5 : MethodName := ⟨RJ4, "length", "()I"⟩
def RJx7c733 : String := "java/lang/StringIndexOutOfBoundsException"
def TJx7c733 : u_T := fun k => match k with
  | 0 => ("java/lang/Throwable", "backtrace", "Ljava/lang/Object;", false)
  | 1 => ("java/lang/Throwable", "detailMessage", "Ljava/lang/String;", false)
  | 2 => ("java/lang/Throwable", "cause", "Ljava/lang/Throwable;", false)
  | 3 => ("java/lang/Throwable", "stackTrace", "[Ljava/lang/StackTraceElement;", false)
  | 4 => ("java/lang/Throwable", "depth", "I", false)
  | _ => ("java/lang/Throwable", "suppressedExceptions", "Ljava/util/List;", false)
def tyJx7c733 : Nat → FieldType := fun k => match k with
  | 0 => .object "java/lang/Object"
  | 1 => .object "java/lang/String"
  | 2 => .object "java/lang/Throwable"
  | 3 => .array (.object "java/lang/StackTraceElement")
  | 4 => .int
  | _ => .object "java/util/List"
abbrev wsJx7c7330 : List Cond := u_ws RJx7c733 TJx7c733 6
theorem nmJx7c733 : ∀ a, a < 6 → ∀ b, b < 6 → a ≠ b → (TJx7c733 a).2.1 ≠ (TJx7c733 b).2.1 := by decide +kernel
theorem tyJx7c733_ok : ∀ k, k < 6 → parseFieldDescriptor (TJx7c733 k).2.2.1 = some (tyJx7c733 k) := by decide +kernel
abbrev cJx7c733_init_d00df : ByteArray := prog_24_method_3_code
def yJx7c733_init_d00df : MethodName := ⟨RJx7c733, "<init>", "(I)V"⟩
def RJ1 : String := "java/lang/StringLatin1"
def TJ1 : u_T := fun k => match k with
  | _ => ("", "", "", false)
def tyJ1 : Nat → FieldType := fun k => match k with
  | _ => .int
abbrev wsJ10 : List Cond := u_ws RJ1 TJ1 0
theorem nmJ1 : ∀ a, a < 0 → ∀ b, b < 0 → a ≠ b → (TJ1 a).2.1 ≠ (TJ1 b).2.1 := by decide +kernel
theorem tyJ1_ok : ∀ k, k < 0 → parseFieldDescriptor (TJ1 k).2.2.1 = some (tyJ1 k) := by decide +kernel
abbrev cJ1_canEncode_fc78d : ByteArray := prog_25_method_3_code
def yJ1_canEncode_fc78d : MethodName := ⟨RJ1, "canEncode", "(C)Z"⟩
abbrev cJ1_fillNull_b72d1 : ByteArray := prog_25_method_48_code
def yJ1_fillNull_b72d1 : MethodName := ⟨RJ1, "fillNull", "([BII)V"⟩
abbrev cJ1_inflate_0e8fd : ByteArray := prog_25_method_50_code
def yJ1_inflate_0e8fd : MethodName := ⟨RJ1, "inflate", "([BI[BII)V"⟩
def RJ2 : String := "java/lang/StringUTF16"
def TJ2 : u_T := fun k => match k with
  | _ => ("", "", "", false)
def tyJ2 : Nat → FieldType := fun k => match k with
  | _ => .int
abbrev wsJ20 : List Cond := u_ws RJ2 TJ2 0
theorem nmJ2 : ∀ a, a < 0 → ∀ b, b < 0 → a ≠ b → (TJ2 a).2.1 ≠ (TJ2 b).2.1 := by decide +kernel
theorem tyJ2_ok : ∀ k, k < 0 → parseFieldDescriptor (TJ2 k).2.2.1 = some (tyJ2 k) := by decide +kernel
abbrev cJ2_newBytesFor_77867 : ByteArray := prog_26_method_2_code
def yJ2_newBytesFor_77867 : MethodName := ⟨RJ2, "newBytesFor", "(I)[B"⟩
abbrev cJ2_newBytesLength_0f7a4 : ByteArray := prog_26_method_3_code
def yJ2_newBytesLength_0f7a4 : MethodName := ⟨RJ2, "newBytesLength", "(I)I"⟩
abbrev cJ2_putChar_b72d1 : ByteArray := prog_26_method_4_code
def yJ2_putChar_b72d1 : MethodName := ⟨RJ2, "putChar", "([BII)V"⟩
abbrev cJ2_getChar_3b067 : ByteArray := prog_26_method_5_code
def yJ2_getChar_3b067 : MethodName := ⟨RJ2, "getChar", "([BI)C"⟩
abbrev cJ2_length_9d52b : ByteArray := prog_26_method_6_code
def yJ2_length_9d52b : MethodName := ⟨RJ2, "length", "([B)I"⟩
abbrev cJ2_coderFromArrayLen_85cad : ByteArray := prog_26_method_15_code
def yJ2_coderFromArrayLen_85cad : MethodName := ⟨RJ2, "coderFromArrayLen", "([BI)B"⟩
abbrev cJ2_compress_39247 : ByteArray := prog_26_method_17_code
def yJ2_compress_39247 : MethodName := ⟨RJ2, "compress", "([BII)[B"⟩
abbrev cJ2_compress_5af95 : ByteArray := prog_26_method_22_code
def yJ2_compress_5af95 : MethodName := ⟨RJ2, "compress", "([BI[BII)I"⟩
abbrev cJ2_fillNull_b72d1 : ByteArray := prog_26_method_70_code
def yJ2_fillNull_b72d1 : MethodName := ⟨RJ2, "fillNull", "([BII)V"⟩
abbrev cJ2_putCharSB_b72d1 : ByteArray := prog_26_method_71_code
def yJ2_putCharSB_b72d1 : MethodName := ⟨RJ2, "putCharSB", "([BII)V"⟩
abbrev cJ2_getChars_46870 : ByteArray := prog_26_method_77_code
def yJ2_getChars_46870 : MethodName := ⟨RJ2, "getChars", "(III[B)I"⟩
abbrev cJ2_putCharsAt_cd4e5 : ByteArray := prog_26_method_81_code
def yJ2_putCharsAt_cd4e5 : MethodName := ⟨RJ2, "putCharsAt", "([BICCCC)I"⟩
abbrev cJ2_inflate_0e8fd : ByteArray := prog_26_method_86_code
def yJ2_inflate_0e8fd : MethodName := ⟨RJ2, "inflate", "([BI[BII)V"⟩
abbrev cJ2_getChars_ba4f3 : ByteArray := prog_26_method_89_code
def yJ2_getChars_ba4f3 : MethodName := ⟨RJ2, "getChars", "(II[B)I"⟩
abbrev cJ2_checkIndex_2214a : ByteArray := prog_26_method_91_code
def yJ2_checkIndex_2214a : MethodName := ⟨RJ2, "checkIndex", "(I[B)V"⟩
abbrev cJ2_checkBoundsBeginEnd_d044e : ByteArray := prog_26_method_93_code
def yJ2_checkBoundsBeginEnd_d044e : MethodName := ⟨RJ2, "checkBoundsBeginEnd", "(II[B)V"⟩
abbrev cJ2_checkBoundsOffCount_d044e : ByteArray := prog_26_method_94_code
def yJ2_checkBoundsOffCount_d044e : MethodName := ⟨RJ2, "checkBoundsOffCount", "(II[B)V"⟩
def RJ10 : String := "java/lang/System"
def TJ10 : u_T := fun k => match k with
  | _ => ("", "", "", false)
def tyJ10 : Nat → FieldType := fun k => match k with
  | _ => .int
abbrev wsJ100 : List Cond := u_ws RJ10 TJ10 0
theorem nmJ10 : ∀ a, a < 0 → ∀ b, b < 0 → a ≠ b → (TJ10 a).2.1 ≠ (TJ10 b).2.1 := by decide +kernel
theorem tyJ10_ok : ∀ k, k < 0 → parseFieldDescriptor (TJ10 k).2.2.1 = some (tyJ10 k) := by decide +kernel
def RJxfd54e : String := "java/lang/constant/Constable"
def TJxfd54e : u_T := fun k => match k with
  | _ => ("", "", "", false)
def tyJxfd54e : Nat → FieldType := fun k => match k with
  | _ => .int
abbrev wsJxfd54e0 : List Cond := u_ws RJxfd54e TJxfd54e 0
theorem nmJxfd54e : ∀ a, a < 0 → ∀ b, b < 0 → a ≠ b → (TJxfd54e a).2.1 ≠ (TJxfd54e b).2.1 := by decide +kernel
theorem tyJxfd54e_ok : ∀ k, k < 0 → parseFieldDescriptor (TJxfd54e k).2.2.1 = some (tyJxfd54e k) := by decide +kernel
def RJx3cf43 : String := "java/lang/constant/ConstantDesc"
def TJx3cf43 : u_T := fun k => match k with
  | _ => ("", "", "", false)
def tyJx3cf43 : Nat → FieldType := fun k => match k with
  | _ => .int
abbrev wsJx3cf430 : List Cond := u_ws RJx3cf43 TJx3cf43 0
theorem nmJx3cf43 : ∀ a, a < 0 → ∀ b, b < 0 → a ≠ b → (TJx3cf43 a).2.1 ≠ (TJx3cf43 b).2.1 := by decide +kernel
theorem tyJx3cf43_ok : ∀ k, k < 0 → parseFieldDescriptor (TJx3cf43 k).2.2.1 = some (tyJx3cf43 k) := by decide +kernel
def RJxa1e45 : String := "java/util/AbstractCollection"
def TJxa1e45 : u_T := fun k => match k with
  | _ => ("", "", "", false)
def tyJxa1e45 : Nat → FieldType := fun k => match k with
  | _ => .int
abbrev wsJxa1e450 : List Cond := u_ws RJxa1e45 TJxa1e45 0
theorem nmJxa1e45 : ∀ a, a < 0 → ∀ b, b < 0 → a ≠ b → (TJxa1e45 a).2.1 ≠ (TJxa1e45 b).2.1 := by decide +kernel
theorem tyJxa1e45_ok : ∀ k, k < 0 → parseFieldDescriptor (TJxa1e45 k).2.2.1 = some (tyJxa1e45 k) := by decide +kernel
abbrev cJxa1e45_init_da8c8 : ByteArray := prog_31_method_1_code
def yJxa1e45_init_da8c8 : MethodName := ⟨RJxa1e45, "<init>", "()V"⟩
def RJxc12de : String := "java/util/AbstractList"
def TJxc12de : u_T := fun k => match k with
  | _ => ("", "", "", false)
def tyJxc12de : Nat → FieldType := fun k => match k with
  | _ => .int
abbrev wsJxc12de0 : List Cond := u_ws RJxc12de TJxc12de 0
theorem nmJxc12de : ∀ a, a < 0 → ∀ b, b < 0 → a ≠ b → (TJxc12de a).2.1 ≠ (TJxc12de b).2.1 := by decide +kernel
theorem tyJxc12de_ok : ∀ k, k < 0 → parseFieldDescriptor (TJxc12de k).2.2.1 = some (tyJxc12de k) := by decide +kernel
abbrev cJxc12de_init_da8c8 : ByteArray := prog_32_method_1_code
def yJxc12de_init_da8c8 : MethodName := ⟨RJxc12de, "<init>", "()V"⟩
def RJx4a65c : String := "java/util/ArrayList"
def TJx4a65c : u_T := fun k => match k with
  | 0 => ("java/util/AbstractList", "modCount", "I", false)
  | 1 => ("java/util/ArrayList", "elementData", "[Ljava/lang/Object;", false)
  | _ => ("java/util/ArrayList", "size", "I", false)
def tyJx4a65c : Nat → FieldType := fun k => match k with
  | 0 => .int
  | 1 => .array (.object "java/lang/Object")
  | _ => .int
abbrev wsJx4a65c0 : List Cond := u_ws RJx4a65c TJx4a65c 3
theorem nmJx4a65c : ∀ a, a < 3 → ∀ b, b < 3 → a ≠ b → (TJx4a65c a).2.1 ≠ (TJx4a65c b).2.1 := by decide +kernel
theorem tyJx4a65c_ok : ∀ k, k < 3 → parseFieldDescriptor (TJx4a65c k).2.2.1 = some (tyJx4a65c k) := by decide +kernel
abbrev cJx4a65c_init_da8c8 : ByteArray := prog_33_method_2_code
def yJx4a65c_init_da8c8 : MethodName := ⟨RJx4a65c, "<init>", "()V"⟩
abbrev cJx4a65c_grow_92f84 : ByteArray := prog_33_method_6_code
def yJx4a65c_grow_92f84 : MethodName := ⟨RJx4a65c, "grow", "(I)[Ljava/lang/Object;"⟩
abbrev cJx4a65c_grow_d5877 : ByteArray := prog_33_method_7_code
def yJx4a65c_grow_d5877 : MethodName := ⟨RJx4a65c, "grow", "()[Ljava/lang/Object;"⟩
abbrev cJx4a65c_size_8abf5 : ByteArray := prog_33_method_8_code
def yJx4a65c_size_8abf5 : MethodName := ⟨RJx4a65c, "size", "()I"⟩
abbrev cJx4a65c_isEmpty_aae02 : ByteArray := prog_33_method_9_code
def yJx4a65c_isEmpty_aae02 : MethodName := ⟨RJx4a65c, "isEmpty", "()Z"⟩
abbrev cJx4a65c_elementData_915e3 : ByteArray := prog_33_method_18_code
def yJx4a65c_elementData_915e3 : MethodName := ⟨RJx4a65c, "elementData", "(I)Ljava/lang/Object;"⟩
abbrev cJx4a65c_get_915e3 : ByteArray := prog_33_method_20_code
def yJx4a65c_get_915e3 : MethodName := ⟨RJx4a65c, "get", "(I)Ljava/lang/Object;"⟩
abbrev cJx4a65c_add_72be8 : ByteArray := prog_33_method_24_code
def yJx4a65c_add_72be8 : MethodName := ⟨RJx4a65c, "add", "(Ljava/lang/Object;[Ljava/lang/Object;I)V"⟩
abbrev cJx4a65c_add_9ea2d : ByteArray := prog_33_method_25_code
def yJx4a65c_add_9ea2d : MethodName := ⟨RJx4a65c, "add", "(Ljava/lang/Object;)Z"⟩
def RJ7 : String := "java/util/Arrays"
def TJ7 : u_T := fun k => match k with
  | _ => ("", "", "", false)
def tyJ7 : Nat → FieldType := fun k => match k with
  | _ => .int
abbrev wsJ70 : List Cond := u_ws RJ7 TJ7 0
theorem nmJ7 : ∀ a, a < 0 → ∀ b, b < 0 → a ≠ b → (TJ7 a).2.1 ≠ (TJ7 b).2.1 := by decide +kernel
theorem tyJ7_ok : ∀ k, k < 0 → parseFieldDescriptor (TJ7 k).2.2.1 = some (tyJ7 k) := by decide +kernel
abbrev cJ7_rangeCheck_23922 : ByteArray := prog_34_method_30_code
def yJ7_rangeCheck_23922 : MethodName := ⟨RJ7, "rangeCheck", "(III)V"⟩
abbrev cJ7_fill_eb02e : ByteArray := prog_34_method_110_code
def yJ7_fill_eb02e : MethodName := ⟨RJ7, "fill", "([BIIB)V"⟩
abbrev cJ7_copyOf_1904c : ByteArray := prog_34_method_119_code
def yJ7_copyOf_1904c : MethodName := ⟨RJ7, "copyOf", "([Ljava/lang/Object;I)[Ljava/lang/Object;"⟩
abbrev cJ7_copyOf_6403c : ByteArray := prog_34_method_120_code
def yJ7_copyOf_6403c : MethodName := ⟨RJ7, "copyOf", "([Ljava/lang/Object;ILjava/lang/Class;)[Ljava/lang/Object;"⟩
abbrev cJ7_copyOf_9075b : ByteArray := prog_34_method_121_code
def yJ7_copyOf_9075b : MethodName := ⟨RJ7, "copyOf", "([BI)[B"⟩
abbrev cJ7_checkLength_df160 : ByteArray := prog_34_method_131_code
def yJ7_checkLength_df160 : MethodName := ⟨RJ7, "checkLength", "(II)V"⟩
abbrev cJ7_copyOfRange_39247 : ByteArray := prog_34_method_132_code
def yJ7_copyOfRange_39247 : MethodName := ⟨RJ7, "copyOfRange", "([BII)[B"⟩
abbrev cJ7_copyOfRangeByte_39247 : ByteArray := prog_34_method_133_code
def yJ7_copyOfRangeByte_39247 : MethodName := ⟨RJ7, "copyOfRangeByte", "([BII)[B"⟩
def RJx5ef63 : String := "java/util/Collection"
def TJx5ef63 : u_T := fun k => match k with
  | _ => ("", "", "", false)
def tyJx5ef63 : Nat → FieldType := fun k => match k with
  | _ => .int
abbrev wsJx5ef630 : List Cond := u_ws RJx5ef63 TJx5ef63 0
theorem nmJx5ef63 : ∀ a, a < 0 → ∀ b, b < 0 → a ≠ b → (TJx5ef63 a).2.1 ≠ (TJx5ef63 b).2.1 := by decide +kernel
theorem tyJx5ef63_ok : ∀ k, k < 0 → parseFieldDescriptor (TJx5ef63 k).2.2.1 = some (tyJx5ef63 k) := by decide +kernel
def RJxbd725 : String := "java/util/List"
def TJxbd725 : u_T := fun k => match k with
  | _ => ("", "", "", false)
def tyJxbd725 : Nat → FieldType := fun k => match k with
  | _ => .int
abbrev wsJxbd7250 : List Cond := u_ws RJxbd725 TJxbd725 0
theorem nmJxbd725 : ∀ a, a < 0 → ∀ b, b < 0 → a ≠ b → (TJxbd725 a).2.1 ≠ (TJxbd725 b).2.1 := by decide +kernel
theorem tyJxbd725_ok : ∀ k, k < 0 → parseFieldDescriptor (TJxbd725 k).2.2.1 = some (tyJxbd725 k) := by decide +kernel
def RJ15 : String := "java/util/Objects"
def TJ15 : u_T := fun k => match k with
  | _ => ("", "", "", false)
def tyJ15 : Nat → FieldType := fun k => match k with
  | _ => .int
abbrev wsJ150 : List Cond := u_ws RJ15 TJ15 0
theorem nmJ15 : ∀ a, a < 0 → ∀ b, b < 0 → a ≠ b → (TJ15 a).2.1 ≠ (TJ15 b).2.1 := by decide +kernel
theorem tyJ15_ok : ∀ k, k < 0 → parseFieldDescriptor (TJ15 k).2.2.1 = some (tyJ15 k) := by decide +kernel
abbrev cJ15_checkIndex_7cf53 : ByteArray := prog_37_method_17_code
def yJ15_checkIndex_7cf53 : MethodName := ⟨RJ15, "checkIndex", "(II)I"⟩
def RJxf0a74 : String := "java/util/RandomAccess"
def TJxf0a74 : u_T := fun k => match k with
  | _ => ("", "", "", false)
def tyJxf0a74 : Nat → FieldType := fun k => match k with
  | _ => .int
abbrev wsJxf0a740 : List Cond := u_ws RJxf0a74 TJxf0a74 0
theorem nmJxf0a74 : ∀ a, a < 0 → ∀ b, b < 0 → a ≠ b → (TJxf0a74 a).2.1 ≠ (TJxf0a74 b).2.1 := by decide +kernel
theorem tyJxf0a74_ok : ∀ k, k < 0 → parseFieldDescriptor (TJxf0a74 k).2.2.1 = some (tyJxf0a74 k) := by decide +kernel
def RJxa66e6 : String := "java/util/SequencedCollection"
def TJxa66e6 : u_T := fun k => match k with
  | _ => ("", "", "", false)
def tyJxa66e6 : Nat → FieldType := fun k => match k with
  | _ => .int
abbrev wsJxa66e60 : List Cond := u_ws RJxa66e6 TJxa66e6 0
theorem nmJxa66e6 : ∀ a, a < 0 → ∀ b, b < 0 → a ≠ b → (TJxa66e6 a).2.1 ≠ (TJxa66e6 b).2.1 := by decide +kernel
theorem tyJxa66e6_ok : ∀ k, k < 0 → parseFieldDescriptor (TJxa66e6 k).2.2.1 = some (tyJxa66e6 k) := by decide +kernel
def RJ8 : String := "jdk/internal/util/ArraysSupport"
def TJ8 : u_T := fun k => match k with
  | _ => ("", "", "", false)
def tyJ8 : Nat → FieldType := fun k => match k with
  | _ => .int
abbrev wsJ80 : List Cond := u_ws RJ8 TJ8 0
theorem nmJ8 : ∀ a, a < 0 → ∀ b, b < 0 → a ≠ b → (TJ8 a).2.1 ≠ (TJ8 b).2.1 := by decide +kernel
theorem tyJ8_ok : ∀ k, k < 0 → parseFieldDescriptor (TJ8 k).2.2.1 = some (tyJ8 k) := by decide +kernel
abbrev cJ8_newLength_cabcc : ByteArray := prog_40_method_27_code
def yJ8_newLength_cabcc : MethodName := ⟨RJ8, "newLength", "(III)I"⟩
abbrev cJ8_hugeLength_7cf53 : ByteArray := prog_40_method_28_code
def yJ8_hugeLength_7cf53 : MethodName := ⟨RJ8, "hugeLength", "(II)I"⟩
def RJ3 : String := "jdk/internal/util/Preconditions"
def TJ3 : u_T := fun k => match k with
  | _ => ("", "", "", false)
def tyJ3 : Nat → FieldType := fun k => match k with
  | _ => .int
abbrev wsJ30 : List Cond := u_ws RJ3 TJ3 0
theorem nmJ3 : ∀ a, a < 0 → ∀ b, b < 0 → a ≠ b → (TJ3 a).2.1 ≠ (TJ3 b).2.1 := by decide +kernel
theorem tyJ3_ok : ∀ k, k < 0 → parseFieldDescriptor (TJ3 k).2.2.1 = some (tyJ3 k) := by decide +kernel
abbrev cJ3_checkIndex_8e157 : ByteArray := prog_41_method_11_code
def yJ3_checkIndex_8e157 : MethodName := ⟨RJ3, "checkIndex", "(IILjava/util/function/BiFunction;)I"⟩
abbrev cJ3_checkFromToIndex_8c36e : ByteArray := prog_41_method_12_code
def yJ3_checkFromToIndex_8c36e : MethodName := ⟨RJ3, "checkFromToIndex", "(IIILjava/util/function/BiFunction;)I"⟩
abbrev cJ3_checkFromIndexSize_8c36e : ByteArray := prog_41_method_13_code
def yJ3_checkFromIndexSize_8c36e : MethodName := ⟨RJ3, "checkFromIndexSize", "(IIILjava/util/function/BiFunction;)I"⟩
def RL : String := "SpringleafLaw"
abbrev cL_fold : ByteArray := method_3_code
def yL_fold : MethodName := ⟨RL, "fold", "(LSpringleaf;III[J)I"⟩
abbrev cL_part : ByteArray := method_4_code
def yL_part : MethodName := ⟨RL, "part", "(LSpringleaf;IIIIIZ[J)I"⟩
abbrev cL_angle : ByteArray := method_5_code
def yL_angle : MethodName := ⟨RL, "angle", "(LSpringleaf;II[J)I"⟩
abbrev cL_angleAnew : ByteArray := method_6_code
def yL_angleAnew : MethodName := ⟨RL, "angleAnew", "(LSpringleaf;II[J)I"⟩
abbrev cL_where : ByteArray := method_7_code
def yL_where : MethodName := ⟨RL, "where", "(LSpringleaf;III[J)I"⟩
abbrev cL_meet : ByteArray := method_8_code
def yL_meet : MethodName := ⟨RL, "meet", "(LSpringleaf;III[J)I"⟩
abbrev cL_laid : ByteArray := method_9_code
def yL_laid : MethodName := ⟨RL, "laid", "(LSpringleaf;II[J)I"⟩
abbrev cL_glue : ByteArray := method_10_code
def yL_glue : MethodName := ⟨RL, "glue", "(LSpringleaf;I[J)I"⟩
abbrev cL_unglue : ByteArray := method_11_code
def yL_unglue : MethodName := ⟨RL, "unglue", "(LSpringleaf;[J)I"⟩
abbrev cL_glued : ByteArray := method_12_code
def yL_glued : MethodName := ⟨RL, "glued", "(LSpringleaf;I[J)I"⟩
abbrev cL_resize : ByteArray := method_13_code
def yL_resize : MethodName := ⟨RL, "resize", "(LSpringleaf;II[J)I"⟩
abbrev cL_tells : ByteArray := method_14_code
def yL_tells : MethodName := ⟨RL, "tells", "(LSpringleaf;II[J)I"⟩
abbrev cL_law : ByteArray := code
def yL_law : MethodName := ⟨RL, "law", "([I)Z"⟩
abbrev vwCl : List vw_C := [(RJ0, TJ0, 4), (RJ4, TJ4, 4), (RJx00060, TJx00060, 6), (RJx7c733, TJx7c733, 6), (RJx4a65c, TJx4a65c, 3), (RX0, TX0, 7), (RX3, TX3, 12), (RX4, TX4, 5), (RX5, TX5, 25)]
end
section
theorem dX0_init_0 : decode cX0_init 0 = .ok (.aload_n 0, 1) := by decide +kernel
theorem dX0_init_1 : decode cX0_init 1 = .ok (.invokespecial 3, 3) := by decide +kernel
theorem dX0_init_4 : decode cX0_init 4 = .ok (.aload_n 0, 1) := by decide +kernel
theorem dX0_init_5 : decode cX0_init 5 = .ok (.iload_n 1, 1) := by decide +kernel
theorem dX0_init_6 : decode cX0_init 6 = .ok (.putfield 9, 3) := by decide +kernel
theorem dX0_init_9 : decode cX0_init 9 = .ok (.aload_n 0, 1) := by decide +kernel
theorem dX0_init_10 : decode cX0_init 10 = .ok (.aload_n 2, 1) := by decide +kernel
theorem dX0_init_11 : decode cX0_init 11 = .ok (.putfield 15, 3) := by decide +kernel
theorem dX0_init_14 : decode cX0_init 14 = .ok (.aload_n 0, 1) := by decide +kernel
theorem dX0_init_15 : decode cX0_init 15 = .ok (.iload_n 3, 1) := by decide +kernel
theorem dX0_init_16 : decode cX0_init 16 = .ok (.putfield 19, 3) := by decide +kernel
theorem dX0_init_19 : decode cX0_init 19 = .ok (.aload_n 0, 1) := by decide +kernel
theorem dX0_init_20 : decode cX0_init 20 = .ok (.iload 4, 2) := by decide +kernel
theorem dX0_init_22 : decode cX0_init 22 = .ok (.putfield 22, 3) := by decide +kernel
theorem dX0_init_25 : decode cX0_init 25 = .ok (.return_, 1) := by decide +kernel
theorem dX0_openTo_0 : decode cX0_openTo 0 = .ok (.aload_n 0, 1) := by decide +kernel
theorem dX0_openTo_1 : decode cX0_openTo 1 = .ok (.getfield 15, 3) := by decide +kernel
theorem dX0_openTo_4 : decode cX0_openTo 4 = .ok (.ifnonnull 11, 3) := by decide +kernel
theorem dX0_openTo_7 : decode cX0_openTo 7 = .ok (.aload_n 0, 1) := by decide +kernel
theorem dX0_openTo_8 : decode cX0_openTo 8 = .ok (.iload_n 1, 1) := by decide +kernel
theorem dX0_openTo_9 : decode cX0_openTo 9 = .ok (.putfield 25, 3) := by decide +kernel
theorem dX0_openTo_12 : decode cX0_openTo 12 = .ok (.goto 27, 3) := by decide +kernel
theorem dX0_openTo_15 : decode cX0_openTo 15 = .ok (.aload_n 0, 1) := by decide +kernel
theorem dX0_openTo_16 : decode cX0_openTo 16 = .ok (.aload_n 0, 1) := by decide +kernel
theorem dX0_openTo_17 : decode cX0_openTo 17 = .ok (.getfield 15, 3) := by decide +kernel
theorem dX0_openTo_20 : decode cX0_openTo 20 = .ok (.getfield 25, 3) := by decide +kernel
theorem dX0_openTo_23 : decode cX0_openTo 23 = .ok (.aload_n 0, 1) := by decide +kernel
theorem dX0_openTo_24 : decode cX0_openTo 24 = .ok (.getfield 19, 3) := by decide +kernel
theorem dX0_openTo_27 : decode cX0_openTo 27 = .ok (.imul, 1) := by decide +kernel
theorem dX0_openTo_28 : decode cX0_openTo 28 = .ok (.putfield 28, 3) := by decide +kernel
theorem dX0_openTo_31 : decode cX0_openTo 31 = .ok (.aload_n 0, 1) := by decide +kernel
theorem dX0_openTo_32 : decode cX0_openTo 32 = .ok (.aload_n 0, 1) := by decide +kernel
theorem dX0_openTo_33 : decode cX0_openTo 33 = .ok (.invokevirtual 31, 3) := by decide +kernel
theorem dX0_openTo_36 : decode cX0_openTo 36 = .ok (.putfield 25, 3) := by decide +kernel
theorem dX0_openTo_39 : decode cX0_openTo 39 = .ok (.return_, 1) := by decide +kernel
theorem dX0_openOneDegree_0 : decode cX0_openOneDegree 0 = .ok (.aload_n 0, 1) := by decide +kernel
theorem dX0_openOneDegree_1 : decode cX0_openOneDegree 1 = .ok (.getfield 25, 3) := by decide +kernel
theorem dX0_openOneDegree_4 : decode cX0_openOneDegree 4 = .ok (.istore_n 1, 1) := by decide +kernel
theorem dX0_openOneDegree_5 : decode cX0_openOneDegree 5 = .ok (.aload_n 0, 1) := by decide +kernel
theorem dX0_openOneDegree_6 : decode cX0_openOneDegree 6 = .ok (.getfield 15, 3) := by decide +kernel
theorem dX0_openOneDegree_9 : decode cX0_openOneDegree 9 = .ok (.ifnonnull 16, 3) := by decide +kernel
theorem dX0_openOneDegree_12 : decode cX0_openOneDegree 12 = .ok (.aload_n 0, 1) := by decide +kernel
theorem dX0_openOneDegree_13 : decode cX0_openOneDegree 13 = .ok (.dup, 1) := by decide +kernel
theorem dX0_openOneDegree_14 : decode cX0_openOneDegree 14 = .ok (.getfield 25, 3) := by decide +kernel
theorem dX0_openOneDegree_17 : decode cX0_openOneDegree 17 = .ok (.iconst 1, 1) := by decide +kernel
theorem dX0_openOneDegree_18 : decode cX0_openOneDegree 18 = .ok (.iadd, 1) := by decide +kernel
theorem dX0_openOneDegree_19 : decode cX0_openOneDegree 19 = .ok (.putfield 25, 3) := by decide +kernel
theorem dX0_openOneDegree_22 : decode cX0_openOneDegree 22 = .ok (.goto 32, 3) := by decide +kernel
theorem dX0_openOneDegree_25 : decode cX0_openOneDegree 25 = .ok (.aload_n 0, 1) := by decide +kernel
theorem dX0_openOneDegree_26 : decode cX0_openOneDegree 26 = .ok (.dup, 1) := by decide +kernel
theorem dX0_openOneDegree_27 : decode cX0_openOneDegree 27 = .ok (.getfield 28, 3) := by decide +kernel
theorem dX0_openOneDegree_30 : decode cX0_openOneDegree 30 = .ok (.aload_n 0, 1) := by decide +kernel
theorem dX0_openOneDegree_31 : decode cX0_openOneDegree 31 = .ok (.getfield 15, 3) := by decide +kernel
theorem dX0_openOneDegree_34 : decode cX0_openOneDegree 34 = .ok (.getfield 35, 3) := by decide +kernel
theorem dX0_openOneDegree_37 : decode cX0_openOneDegree 37 = .ok (.aload_n 0, 1) := by decide +kernel
theorem dX0_openOneDegree_38 : decode cX0_openOneDegree 38 = .ok (.getfield 19, 3) := by decide +kernel
theorem dX0_openOneDegree_41 : decode cX0_openOneDegree 41 = .ok (.imul, 1) := by decide +kernel
theorem dX0_openOneDegree_42 : decode cX0_openOneDegree 42 = .ok (.iadd, 1) := by decide +kernel
theorem dX0_openOneDegree_43 : decode cX0_openOneDegree 43 = .ok (.putfield 28, 3) := by decide +kernel
theorem dX0_openOneDegree_46 : decode cX0_openOneDegree 46 = .ok (.aload_n 0, 1) := by decide +kernel
theorem dX0_openOneDegree_47 : decode cX0_openOneDegree 47 = .ok (.aload_n 0, 1) := by decide +kernel
theorem dX0_openOneDegree_48 : decode cX0_openOneDegree 48 = .ok (.invokevirtual 31, 3) := by decide +kernel
theorem dX0_openOneDegree_51 : decode cX0_openOneDegree 51 = .ok (.putfield 25, 3) := by decide +kernel
theorem dX0_openOneDegree_54 : decode cX0_openOneDegree 54 = .ok (.aload_n 0, 1) := by decide +kernel
theorem dX0_openOneDegree_55 : decode cX0_openOneDegree 55 = .ok (.aload_n 0, 1) := by decide +kernel
theorem dX0_openOneDegree_56 : decode cX0_openOneDegree 56 = .ok (.getfield 25, 3) := by decide +kernel
theorem dX0_openOneDegree_59 : decode cX0_openOneDegree 59 = .ok (.iload_n 1, 1) := by decide +kernel
theorem dX0_openOneDegree_60 : decode cX0_openOneDegree 60 = .ok (.isub, 1) := by decide +kernel
theorem dX0_openOneDegree_61 : decode cX0_openOneDegree 61 = .ok (.putfield 35, 3) := by decide +kernel
theorem dX0_openOneDegree_64 : decode cX0_openOneDegree 64 = .ok (.return_, 1) := by decide +kernel
theorem dX0_angleOfPulled_0 : decode cX0_angleOfPulled 0 = .ok (.iconst 0, 1) := by decide +kernel
theorem dX0_angleOfPulled_1 : decode cX0_angleOfPulled 1 = .ok (.sipush 180, 3) := by decide +kernel
theorem dX0_angleOfPulled_4 : decode cX0_angleOfPulled 4 = .ok (.aload_n 0, 1) := by decide +kernel
theorem dX0_angleOfPulled_5 : decode cX0_angleOfPulled 5 = .ok (.getfield 28, 3) := by decide +kernel
theorem dX0_angleOfPulled_8 : decode cX0_angleOfPulled 8 = .ok (.iconst 4, 1) := by decide +kernel
theorem dX0_angleOfPulled_9 : decode cX0_angleOfPulled 9 = .ok (.invokestatic 38, 3) := by decide +kernel
theorem dX0_angleOfPulled_12 : decode cX0_angleOfPulled 12 = .ok (.aload_n 0, 1) := by decide +kernel
theorem dX0_angleOfPulled_13 : decode cX0_angleOfPulled 13 = .ok (.getfield 22, 3) := by decide +kernel
theorem dX0_angleOfPulled_16 : decode cX0_angleOfPulled 16 = .ok (.iadd, 1) := by decide +kernel
theorem dX0_angleOfPulled_17 : decode cX0_angleOfPulled 17 = .ok (.invokestatic 44, 3) := by decide +kernel
theorem dX0_angleOfPulled_20 : decode cX0_angleOfPulled 20 = .ok (.invokestatic 47, 3) := by decide +kernel
theorem dX0_angleOfPulled_23 : decode cX0_angleOfPulled 23 = .ok (.ireturn, 1) := by decide +kernel
theorem dX0_tellTo_0 : decode cX0_tellTo 0 = .ok (.aload_n 1, 1) := by decide +kernel
theorem dX0_tellTo_1 : decode cX0_tellTo 1 = .ok (.bipush 102, 2) := by decide +kernel
theorem dX0_tellTo_3 : decode cX0_tellTo 3 = .ok (.invokevirtual 50, 3) := by decide +kernel
theorem dX0_tellTo_6 : decode cX0_tellTo 6 = .ok (.aload_n 0, 1) := by decide +kernel
theorem dX0_tellTo_7 : decode cX0_tellTo 7 = .ok (.getfield 9, 3) := by decide +kernel
theorem dX0_tellTo_10 : decode cX0_tellTo 10 = .ok (.invokevirtual 56, 3) := by decide +kernel
theorem dX0_tellTo_13 : decode cX0_tellTo 13 = .ok (.pop, 1) := by decide +kernel
theorem dX0_tellTo_14 : decode cX0_tellTo 14 = .ok (.aload_n 0, 1) := by decide +kernel
theorem dX0_tellTo_15 : decode cX0_tellTo 15 = .ok (.getfield 15, 3) := by decide +kernel
theorem dX0_tellTo_18 : decode cX0_tellTo 18 = .ok (.ifnull 53, 3) := by decide +kernel
theorem dX0_tellTo_21 : decode cX0_tellTo 21 = .ok (.aload_n 1, 1) := by decide +kernel
theorem dX0_tellTo_22 : decode cX0_tellTo 22 = .ok (.bipush 42, 2) := by decide +kernel
theorem dX0_tellTo_24 : decode cX0_tellTo 24 = .ok (.invokevirtual 50, 3) := by decide +kernel
theorem dX0_tellTo_27 : decode cX0_tellTo 27 = .ok (.aload_n 0, 1) := by decide +kernel
theorem dX0_tellTo_28 : decode cX0_tellTo 28 = .ok (.getfield 19, 3) := by decide +kernel
theorem dX0_tellTo_31 : decode cX0_tellTo 31 = .ok (.invokevirtual 56, 3) := by decide +kernel
theorem dX0_tellTo_34 : decode cX0_tellTo 34 = .ok (.pop, 1) := by decide +kernel
theorem dX0_tellTo_35 : decode cX0_tellTo 35 = .ok (.aload_n 1, 1) := by decide +kernel
theorem dX0_tellTo_36 : decode cX0_tellTo 36 = .ok (.aload_n 0, 1) := by decide +kernel
theorem dX0_tellTo_37 : decode cX0_tellTo 37 = .ok (.getfield 22, 3) := by decide +kernel
theorem dX0_tellTo_40 : decode cX0_tellTo 40 = .ok (.ifCond .ge 8, 3) := by decide +kernel
theorem dX0_tellTo_43 : decode cX0_tellTo 43 = .ok (.bipush 45, 2) := by decide +kernel
theorem dX0_tellTo_45 : decode cX0_tellTo 45 = .ok (.goto 5, 3) := by decide +kernel
theorem dX0_tellTo_48 : decode cX0_tellTo 48 = .ok (.bipush 43, 2) := by decide +kernel
theorem dX0_tellTo_50 : decode cX0_tellTo 50 = .ok (.invokevirtual 50, 3) := by decide +kernel
theorem dX0_tellTo_53 : decode cX0_tellTo 53 = .ok (.aload_n 0, 1) := by decide +kernel
theorem dX0_tellTo_54 : decode cX0_tellTo 54 = .ok (.getfield 22, 3) := by decide +kernel
theorem dX0_tellTo_57 : decode cX0_tellTo 57 = .ok (.invokestatic 59, 3) := by decide +kernel
theorem dX0_tellTo_60 : decode cX0_tellTo 60 = .ok (.invokevirtual 56, 3) := by decide +kernel
theorem dX0_tellTo_63 : decode cX0_tellTo 63 = .ok (.pop, 1) := by decide +kernel
theorem dX0_tellTo_64 : decode cX0_tellTo 64 = .ok (.aload_n 1, 1) := by decide +kernel
theorem dX0_tellTo_65 : decode cX0_tellTo 65 = .ok (.ldc 63, 2) := by decide +kernel
theorem dX0_tellTo_67 : decode cX0_tellTo 67 = .ok (.invokevirtual 65, 3) := by decide +kernel
theorem dX0_tellTo_70 : decode cX0_tellTo 70 = .ok (.pop, 1) := by decide +kernel
theorem dX0_tellTo_71 : decode cX0_tellTo 71 = .ok (.return_, 1) := by decide +kernel
theorem dX3_init_0 : decode cX3_init 0 = .ok (.aload_n 0, 1) := by decide +kernel
theorem dX3_init_1 : decode cX3_init 1 = .ok (.invokespecial 3, 3) := by decide +kernel
theorem dX3_init_4 : decode cX3_init 4 = .ok (.aload_n 0, 1) := by decide +kernel
theorem dX3_init_5 : decode cX3_init 5 = .ok (.iconst (-1), 1) := by decide +kernel
theorem dX3_init_6 : decode cX3_init 6 = .ok (.putfield 9, 3) := by decide +kernel
theorem dX3_init_9 : decode cX3_init 9 = .ok (.aload_n 0, 1) := by decide +kernel
theorem dX3_init_10 : decode cX3_init 10 = .ok (.aload_n 1, 1) := by decide +kernel
theorem dX3_init_11 : decode cX3_init 11 = .ok (.putfield 15, 3) := by decide +kernel
theorem dX3_init_14 : decode cX3_init 14 = .ok (.aload_n 0, 1) := by decide +kernel
theorem dX3_init_15 : decode cX3_init 15 = .ok (.iload_n 2, 1) := by decide +kernel
theorem dX3_init_16 : decode cX3_init 16 = .ok (.putfield 19, 3) := by decide +kernel
theorem dX3_init_19 : decode cX3_init 19 = .ok (.aload_n 0, 1) := by decide +kernel
theorem dX3_init_20 : decode cX3_init 20 = .ok (.iload_n 3, 1) := by decide +kernel
theorem dX3_init_21 : decode cX3_init 21 = .ok (.putfield 22, 3) := by decide +kernel
theorem dX3_init_24 : decode cX3_init 24 = .ok (.aload_n 0, 1) := by decide +kernel
theorem dX3_init_25 : decode cX3_init 25 = .ok (.iload 4, 2) := by decide +kernel
theorem dX3_init_27 : decode cX3_init 27 = .ok (.putfield 25, 3) := by decide +kernel
theorem dX3_init_30 : decode cX3_init 30 = .ok (.aload_n 0, 1) := by decide +kernel
theorem dX3_init_31 : decode cX3_init 31 = .ok (.iload 5, 2) := by decide +kernel
theorem dX3_init_33 : decode cX3_init 33 = .ok (.putfield 28, 3) := by decide +kernel
theorem dX3_init_36 : decode cX3_init 36 = .ok (.aload_n 0, 1) := by decide +kernel
theorem dX3_init_37 : decode cX3_init 37 = .ok (.iload 6, 2) := by decide +kernel
theorem dX3_init_39 : decode cX3_init 39 = .ok (.putfield 31, 3) := by decide +kernel
theorem dX3_init_42 : decode cX3_init 42 = .ok (.return_, 1) := by decide +kernel
theorem dX3_isGlued_0 : decode cX3_isGlued 0 = .ok (.aload_n 0, 1) := by decide +kernel
theorem dX3_isGlued_1 : decode cX3_isGlued 1 = .ok (.getfield 9, 3) := by decide +kernel
theorem dX3_isGlued_4 : decode cX3_isGlued 4 = .ok (.iconst (-1), 1) := by decide +kernel
theorem dX3_isGlued_5 : decode cX3_isGlued 5 = .ok (.if_icmp .eq 7, 3) := by decide +kernel
theorem dX3_isGlued_8 : decode cX3_isGlued 8 = .ok (.iconst 1, 1) := by decide +kernel
theorem dX3_isGlued_9 : decode cX3_isGlued 9 = .ok (.goto 4, 3) := by decide +kernel
theorem dX3_isGlued_12 : decode cX3_isGlued 12 = .ok (.iconst 0, 1) := by decide +kernel
theorem dX3_isGlued_13 : decode cX3_isGlued 13 = .ok (.ireturn, 1) := by decide +kernel
theorem dX3_rise_0 : decode cX3_rise 0 = .ok (.aload_n 0, 1) := by decide +kernel
theorem dX3_rise_1 : decode cX3_rise 1 = .ok (.getfield 22, 3) := by decide +kernel
theorem dX3_rise_4 : decode cX3_rise 4 = .ok (.aload_n 0, 1) := by decide +kernel
theorem dX3_rise_5 : decode cX3_rise 5 = .ok (.getfield 15, 3) := by decide +kernel
theorem dX3_rise_8 : decode cX3_rise 8 = .ok (.getfield 35, 3) := by decide +kernel
theorem dX3_rise_11 : decode cX3_rise 11 = .ok (.sipush 180, 3) := by decide +kernel
theorem dX3_rise_14 : decode cX3_rise 14 = .ok (.aload_n 0, 1) := by decide +kernel
theorem dX3_rise_15 : decode cX3_rise 15 = .ok (.getfield 15, 3) := by decide +kernel
theorem dX3_rise_18 : decode cX3_rise 18 = .ok (.getfield 35, 3) := by decide +kernel
theorem dX3_rise_21 : decode cX3_rise 21 = .ok (.isub, 1) := by decide +kernel
theorem dX3_rise_22 : decode cX3_rise 22 = .ok (.invokestatic 40, 3) := by decide +kernel
theorem dX3_rise_25 : decode cX3_rise 25 = .ok (.imul, 1) := by decide +kernel
theorem dX3_rise_26 : decode cX3_rise 26 = .ok (.bipush 90, 2) := by decide +kernel
theorem dX3_rise_28 : decode cX3_rise 28 = .ok (.idiv, 1) := by decide +kernel
theorem dX3_rise_29 : decode cX3_rise 29 = .ok (.ireturn, 1) := by decide +kernel
theorem dX3_reach_0 : decode cX3_reach 0 = .ok (.aload_n 0, 1) := by decide +kernel
theorem dX3_reach_1 : decode cX3_reach 1 = .ok (.getfield 19, 3) := by decide +kernel
theorem dX3_reach_4 : decode cX3_reach 4 = .ok (.aload_n 0, 1) := by decide +kernel
theorem dX3_reach_5 : decode cX3_reach 5 = .ok (.getfield 22, 3) := by decide +kernel
theorem dX3_reach_8 : decode cX3_reach 8 = .ok (.bipush 90, 2) := by decide +kernel
theorem dX3_reach_10 : decode cX3_reach 10 = .ok (.aload_n 0, 1) := by decide +kernel
theorem dX3_reach_11 : decode cX3_reach 11 = .ok (.getfield 15, 3) := by decide +kernel
theorem dX3_reach_14 : decode cX3_reach 14 = .ok (.getfield 35, 3) := by decide +kernel
theorem dX3_reach_17 : decode cX3_reach 17 = .ok (.isub, 1) := by decide +kernel
theorem dX3_reach_18 : decode cX3_reach 18 = .ok (.imul, 1) := by decide +kernel
theorem dX3_reach_19 : decode cX3_reach 19 = .ok (.bipush 90, 2) := by decide +kernel
theorem dX3_reach_21 : decode cX3_reach 21 = .ok (.idiv, 1) := by decide +kernel
theorem dX3_reach_22 : decode cX3_reach 22 = .ok (.iadd, 1) := by decide +kernel
theorem dX3_reach_23 : decode cX3_reach 23 = .ok (.ireturn, 1) := by decide +kernel
theorem dX3_spanStart_0 : decode cX3_spanStart 0 = .ok (.aload_n 0, 1) := by decide +kernel
theorem dX3_spanStart_1 : decode cX3_spanStart 1 = .ok (.getfield 19, 3) := by decide +kernel
theorem dX3_spanStart_4 : decode cX3_spanStart 4 = .ok (.aload_n 0, 1) := by decide +kernel
theorem dX3_spanStart_5 : decode cX3_spanStart 5 = .ok (.invokevirtual 46, 3) := by decide +kernel
theorem dX3_spanStart_8 : decode cX3_spanStart 8 = .ok (.invokestatic 40, 3) := by decide +kernel
theorem dX3_spanStart_11 : decode cX3_spanStart 11 = .ok (.ireturn, 1) := by decide +kernel
theorem dX3_spanEnd_0 : decode cX3_spanEnd 0 = .ok (.aload_n 0, 1) := by decide +kernel
theorem dX3_spanEnd_1 : decode cX3_spanEnd 1 = .ok (.getfield 19, 3) := by decide +kernel
theorem dX3_spanEnd_4 : decode cX3_spanEnd 4 = .ok (.aload_n 0, 1) := by decide +kernel
theorem dX3_spanEnd_5 : decode cX3_spanEnd 5 = .ok (.invokevirtual 46, 3) := by decide +kernel
theorem dX3_spanEnd_8 : decode cX3_spanEnd 8 = .ok (.invokestatic 50, 3) := by decide +kernel
theorem dX3_spanEnd_11 : decode cX3_spanEnd 11 = .ok (.ireturn, 1) := by decide +kernel
theorem dX3_sharesLineWith_0 : decode cX3_sharesLineWith 0 = .ok (.aload_n 0, 1) := by decide +kernel
theorem dX3_sharesLineWith_1 : decode cX3_sharesLineWith 1 = .ok (.getfield 25, 3) := by decide +kernel
theorem dX3_sharesLineWith_4 : decode cX3_sharesLineWith 4 = .ok (.aload_n 1, 1) := by decide +kernel
theorem dX3_sharesLineWith_5 : decode cX3_sharesLineWith 5 = .ok (.getfield 25, 3) := by decide +kernel
theorem dX3_sharesLineWith_8 : decode cX3_sharesLineWith 8 = .ok (.aload_n 1, 1) := by decide +kernel
theorem dX3_sharesLineWith_9 : decode cX3_sharesLineWith 9 = .ok (.getfield 28, 3) := by decide +kernel
theorem dX3_sharesLineWith_12 : decode cX3_sharesLineWith 12 = .ok (.iadd, 1) := by decide +kernel
theorem dX3_sharesLineWith_13 : decode cX3_sharesLineWith 13 = .ok (.if_icmp .ge 23, 3) := by decide +kernel
theorem dX3_sharesLineWith_16 : decode cX3_sharesLineWith 16 = .ok (.aload_n 1, 1) := by decide +kernel
theorem dX3_sharesLineWith_17 : decode cX3_sharesLineWith 17 = .ok (.getfield 25, 3) := by decide +kernel
theorem dX3_sharesLineWith_20 : decode cX3_sharesLineWith 20 = .ok (.aload_n 0, 1) := by decide +kernel
theorem dX3_sharesLineWith_21 : decode cX3_sharesLineWith 21 = .ok (.getfield 25, 3) := by decide +kernel
theorem dX3_sharesLineWith_24 : decode cX3_sharesLineWith 24 = .ok (.aload_n 0, 1) := by decide +kernel
theorem dX3_sharesLineWith_25 : decode cX3_sharesLineWith 25 = .ok (.getfield 28, 3) := by decide +kernel
theorem dX3_sharesLineWith_28 : decode cX3_sharesLineWith 28 = .ok (.iadd, 1) := by decide +kernel
theorem dX3_sharesLineWith_29 : decode cX3_sharesLineWith 29 = .ok (.if_icmp .ge 7, 3) := by decide +kernel
theorem dX3_sharesLineWith_32 : decode cX3_sharesLineWith 32 = .ok (.iconst 1, 1) := by decide +kernel
theorem dX3_sharesLineWith_33 : decode cX3_sharesLineWith 33 = .ok (.goto 4, 3) := by decide +kernel
theorem dX3_sharesLineWith_36 : decode cX3_sharesLineWith 36 = .ok (.iconst 0, 1) := by decide +kernel
theorem dX3_sharesLineWith_37 : decode cX3_sharesLineWith 37 = .ok (.ireturn, 1) := by decide +kernel
theorem dX3_meets_0 : decode cX3_meets 0 = .ok (.aload_n 0, 1) := by decide +kernel
theorem dX3_meets_1 : decode cX3_meets 1 = .ok (.aload_n 1, 1) := by decide +kernel
theorem dX3_meets_2 : decode cX3_meets 2 = .ok (.invokevirtual 53, 3) := by decide +kernel
theorem dX3_meets_5 : decode cX3_meets 5 = .ok (.ifCond .eq 59, 3) := by decide +kernel
theorem dX3_meets_8 : decode cX3_meets 8 = .ok (.aload_n 0, 1) := by decide +kernel
theorem dX3_meets_9 : decode cX3_meets 9 = .ok (.invokevirtual 57, 3) := by decide +kernel
theorem dX3_meets_12 : decode cX3_meets 12 = .ok (.aload_n 1, 1) := by decide +kernel
theorem dX3_meets_13 : decode cX3_meets 13 = .ok (.invokevirtual 60, 3) := by decide +kernel
theorem dX3_meets_16 : decode cX3_meets 16 = .ok (.if_icmp .gt 48, 3) := by decide +kernel
theorem dX3_meets_19 : decode cX3_meets 19 = .ok (.aload_n 1, 1) := by decide +kernel
theorem dX3_meets_20 : decode cX3_meets 20 = .ok (.invokevirtual 57, 3) := by decide +kernel
theorem dX3_meets_23 : decode cX3_meets 23 = .ok (.aload_n 0, 1) := by decide +kernel
theorem dX3_meets_24 : decode cX3_meets 24 = .ok (.invokevirtual 60, 3) := by decide +kernel
theorem dX3_meets_27 : decode cX3_meets 27 = .ok (.if_icmp .gt 37, 3) := by decide +kernel
theorem dX3_meets_30 : decode cX3_meets 30 = .ok (.aload_n 0, 1) := by decide +kernel
theorem dX3_meets_31 : decode cX3_meets 31 = .ok (.invokevirtual 63, 3) := by decide +kernel
theorem dX3_meets_34 : decode cX3_meets 34 = .ok (.ifCond .le 30, 3) := by decide +kernel
theorem dX3_meets_37 : decode cX3_meets 37 = .ok (.aload_n 1, 1) := by decide +kernel
theorem dX3_meets_38 : decode cX3_meets 38 = .ok (.invokevirtual 63, 3) := by decide +kernel
theorem dX3_meets_41 : decode cX3_meets 41 = .ok (.ifCond .le 23, 3) := by decide +kernel
theorem dX3_meets_44 : decode cX3_meets 44 = .ok (.aload_n 0, 1) := by decide +kernel
theorem dX3_meets_45 : decode cX3_meets 45 = .ok (.invokevirtual 63, 3) := by decide +kernel
theorem dX3_meets_48 : decode cX3_meets 48 = .ok (.aload_n 1, 1) := by decide +kernel
theorem dX3_meets_49 : decode cX3_meets 49 = .ok (.invokevirtual 63, 3) := by decide +kernel
theorem dX3_meets_52 : decode cX3_meets 52 = .ok (.isub, 1) := by decide +kernel
theorem dX3_meets_53 : decode cX3_meets 53 = .ok (.invokestatic 66, 3) := by decide +kernel
theorem dX3_meets_56 : decode cX3_meets 56 = .ok (.iconst 1, 1) := by decide +kernel
theorem dX3_meets_57 : decode cX3_meets 57 = .ok (.if_icmp .gt 7, 3) := by decide +kernel
theorem dX3_meets_60 : decode cX3_meets 60 = .ok (.iconst 1, 1) := by decide +kernel
theorem dX3_meets_61 : decode cX3_meets 61 = .ok (.goto 4, 3) := by decide +kernel
theorem dX3_meets_64 : decode cX3_meets 64 = .ok (.iconst 0, 1) := by decide +kernel
theorem dX3_meets_65 : decode cX3_meets 65 = .ok (.ireturn, 1) := by decide +kernel
theorem dX3_coversStartOf_0 : decode cX3_coversStartOf 0 = .ok (.aload_n 0, 1) := by decide +kernel
theorem dX3_coversStartOf_1 : decode cX3_coversStartOf 1 = .ok (.aload_n 1, 1) := by decide +kernel
theorem dX3_coversStartOf_2 : decode cX3_coversStartOf 2 = .ok (.invokevirtual 53, 3) := by decide +kernel
theorem dX3_coversStartOf_5 : decode cX3_coversStartOf 5 = .ok (.ifCond .eq 29, 3) := by decide +kernel
theorem dX3_coversStartOf_8 : decode cX3_coversStartOf 8 = .ok (.aload_n 0, 1) := by decide +kernel
theorem dX3_coversStartOf_9 : decode cX3_coversStartOf 9 = .ok (.invokevirtual 57, 3) := by decide +kernel
theorem dX3_coversStartOf_12 : decode cX3_coversStartOf 12 = .ok (.aload_n 1, 1) := by decide +kernel
theorem dX3_coversStartOf_13 : decode cX3_coversStartOf 13 = .ok (.getfield 19, 3) := by decide +kernel
theorem dX3_coversStartOf_16 : decode cX3_coversStartOf 16 = .ok (.if_icmp .gt 18, 3) := by decide +kernel
theorem dX3_coversStartOf_19 : decode cX3_coversStartOf 19 = .ok (.aload_n 1, 1) := by decide +kernel
theorem dX3_coversStartOf_20 : decode cX3_coversStartOf 20 = .ok (.getfield 19, 3) := by decide +kernel
theorem dX3_coversStartOf_23 : decode cX3_coversStartOf 23 = .ok (.aload_n 0, 1) := by decide +kernel
theorem dX3_coversStartOf_24 : decode cX3_coversStartOf 24 = .ok (.invokevirtual 60, 3) := by decide +kernel
theorem dX3_coversStartOf_27 : decode cX3_coversStartOf 27 = .ok (.if_icmp .gt 7, 3) := by decide +kernel
theorem dX3_coversStartOf_30 : decode cX3_coversStartOf 30 = .ok (.iconst 1, 1) := by decide +kernel
theorem dX3_coversStartOf_31 : decode cX3_coversStartOf 31 = .ok (.goto 4, 3) := by decide +kernel
theorem dX3_coversStartOf_34 : decode cX3_coversStartOf 34 = .ok (.iconst 0, 1) := by decide +kernel
theorem dX3_coversStartOf_35 : decode cX3_coversStartOf 35 = .ok (.ireturn, 1) := by decide +kernel
theorem dX3_pieceWidth_0 : decode cX3_pieceWidth 0 = .ok (.aload_n 0, 1) := by decide +kernel
theorem dX3_pieceWidth_1 : decode cX3_pieceWidth 1 = .ok (.getfield 31, 3) := by decide +kernel
theorem dX3_pieceWidth_4 : decode cX3_pieceWidth 4 = .ok (.ifCond .eq 10, 3) := by decide +kernel
theorem dX3_pieceWidth_7 : decode cX3_pieceWidth 7 = .ok (.aload_n 0, 1) := by decide +kernel
theorem dX3_pieceWidth_8 : decode cX3_pieceWidth 8 = .ok (.getfield 22, 3) := by decide +kernel
theorem dX3_pieceWidth_11 : decode cX3_pieceWidth 11 = .ok (.goto 7, 3) := by decide +kernel
theorem dX3_pieceWidth_14 : decode cX3_pieceWidth 14 = .ok (.aload_n 0, 1) := by decide +kernel
theorem dX3_pieceWidth_15 : decode cX3_pieceWidth 15 = .ok (.getfield 28, 3) := by decide +kernel
theorem dX3_pieceWidth_18 : decode cX3_pieceWidth 18 = .ok (.ireturn, 1) := by decide +kernel
theorem dX3_pieceHeight_0 : decode cX3_pieceHeight 0 = .ok (.aload_n 0, 1) := by decide +kernel
theorem dX3_pieceHeight_1 : decode cX3_pieceHeight 1 = .ok (.getfield 31, 3) := by decide +kernel
theorem dX3_pieceHeight_4 : decode cX3_pieceHeight 4 = .ok (.ifCond .eq 10, 3) := by decide +kernel
theorem dX3_pieceHeight_7 : decode cX3_pieceHeight 7 = .ok (.aload_n 0, 1) := by decide +kernel
theorem dX3_pieceHeight_8 : decode cX3_pieceHeight 8 = .ok (.getfield 28, 3) := by decide +kernel
theorem dX3_pieceHeight_11 : decode cX3_pieceHeight 11 = .ok (.goto 7, 3) := by decide +kernel
theorem dX3_pieceHeight_14 : decode cX3_pieceHeight 14 = .ok (.aload_n 0, 1) := by decide +kernel
theorem dX3_pieceHeight_15 : decode cX3_pieceHeight 15 = .ok (.getfield 22, 3) := by decide +kernel
theorem dX3_pieceHeight_18 : decode cX3_pieceHeight 18 = .ok (.ireturn, 1) := by decide +kernel
theorem dX4_init_0 : decode cX4_init 0 = .ok (.aload_n 0, 1) := by decide +kernel
theorem dX4_init_1 : decode cX4_init 1 = .ok (.invokespecial 1, 3) := by decide +kernel
theorem dX4_init_4 : decode cX4_init 4 = .ok (.aload_n 0, 1) := by decide +kernel
theorem dX4_init_5 : decode cX4_init 5 = .ok (.new 7, 3) := by decide +kernel
theorem dX4_init_8 : decode cX4_init 8 = .ok (.dup, 1) := by decide +kernel
theorem dX4_init_9 : decode cX4_init 9 = .ok (.invokespecial 9, 3) := by decide +kernel
theorem dX4_init_12 : decode cX4_init 12 = .ok (.putfield 10, 3) := by decide +kernel
theorem dX4_init_15 : decode cX4_init 15 = .ok (.aload_n 0, 1) := by decide +kernel
theorem dX4_init_16 : decode cX4_init 16 = .ok (.new 7, 3) := by decide +kernel
theorem dX4_init_19 : decode cX4_init 19 = .ok (.dup, 1) := by decide +kernel
theorem dX4_init_20 : decode cX4_init 20 = .ok (.invokespecial 9, 3) := by decide +kernel
theorem dX4_init_23 : decode cX4_init 23 = .ok (.putfield 16, 3) := by decide +kernel
theorem dX4_init_26 : decode cX4_init 26 = .ok (.aload_n 0, 1) := by decide +kernel
theorem dX4_init_27 : decode cX4_init 27 = .ok (.new 19, 3) := by decide +kernel
theorem dX4_init_30 : decode cX4_init 30 = .ok (.dup, 1) := by decide +kernel
theorem dX4_init_31 : decode cX4_init 31 = .ok (.invokespecial 21, 3) := by decide +kernel
theorem dX4_init_34 : decode cX4_init 34 = .ok (.putfield 22, 3) := by decide +kernel
theorem dX4_init_37 : decode cX4_init 37 = .ok (.aload_n 0, 1) := by decide +kernel
theorem dX4_init_38 : decode cX4_init 38 = .ok (.getfield 10, 3) := by decide +kernel
theorem dX4_init_41 : decode cX4_init 41 = .ok (.new 26, 3) := by decide +kernel
theorem dX4_init_44 : decode cX4_init 44 = .ok (.dup, 1) := by decide +kernel
theorem dX4_init_45 : decode cX4_init 45 = .ok (.iconst 0, 1) := by decide +kernel
theorem dX4_init_46 : decode cX4_init 46 = .ok (.aconst_null, 1) := by decide +kernel
theorem dX4_init_47 : decode cX4_init 47 = .ok (.iconst 0, 1) := by decide +kernel
theorem dX4_init_48 : decode cX4_init 48 = .ok (.iconst 0, 1) := by decide +kernel
theorem dX4_init_49 : decode cX4_init 49 = .ok (.invokespecial 28, 3) := by decide +kernel
theorem dX4_init_52 : decode cX4_init 52 = .ok (.invokevirtual 31, 3) := by decide +kernel
theorem dX4_init_55 : decode cX4_init 55 = .ok (.pop, 1) := by decide +kernel
theorem dX4_init_56 : decode cX4_init 56 = .ok (.return_, 1) := by decide +kernel
theorem dX4_fold_0 : decode cX4_fold 0 = .ok (.aload_n 0, 1) := by decide +kernel
theorem dX4_fold_1 : decode cX4_fold 1 = .ok (.iload_n 1, 1) := by decide +kernel
theorem dX4_fold_2 : decode cX4_fold 2 = .ok (.invokevirtual 35, 3) := by decide +kernel
theorem dX4_fold_5 : decode cX4_fold 5 = .ok (.iload_n 2, 1) := by decide +kernel
theorem dX4_fold_6 : decode cX4_fold 6 = .ok (.iconst 1, 1) := by decide +kernel
theorem dX4_fold_7 : decode cX4_fold 7 = .ok (.bipush 8, 2) := by decide +kernel
theorem dX4_fold_9 : decode cX4_fold 9 = .ok (.invokestatic 39, 3) := by decide +kernel
theorem dX4_fold_12 : decode cX4_fold 12 = .ok (.ifCond .ne 14, 3) := by decide +kernel
theorem dX4_fold_15 : decode cX4_fold 15 = .ok (.iload_n 3, 1) := by decide +kernel
theorem dX4_fold_16 : decode cX4_fold 16 = .ok (.bipush (-90), 2) := by decide +kernel
theorem dX4_fold_18 : decode cX4_fold 18 = .ok (.bipush 90, 2) := by decide +kernel
theorem dX4_fold_20 : decode cX4_fold 20 = .ok (.invokestatic 39, 3) := by decide +kernel
theorem dX4_fold_23 : decode cX4_fold 23 = .ok (.ifCond .eq 13, 3) := by decide +kernel
theorem dX4_fold_26 : decode cX4_fold 26 = .ok (.new 43, 3) := by decide +kernel
theorem dX4_fold_29 : decode cX4_fold 29 = .ok (.dup, 1) := by decide +kernel
theorem dX4_fold_30 : decode cX4_fold 30 = .ok (.ldc 45, 2) := by decide +kernel
theorem dX4_fold_32 : decode cX4_fold 32 = .ok (.invokespecial 47, 3) := by decide +kernel
theorem dX4_fold_35 : decode cX4_fold 35 = .ok (.athrow, 1) := by decide +kernel
theorem dX4_fold_36 : decode cX4_fold 36 = .ok (.aload_n 0, 1) := by decide +kernel
theorem dX4_fold_37 : decode cX4_fold 37 = .ok (.getfield 10, 3) := by decide +kernel
theorem dX4_fold_40 : decode cX4_fold 40 = .ok (.invokevirtual 50, 3) := by decide +kernel
theorem dX4_fold_43 : decode cX4_fold 43 = .ok (.bipush 12, 2) := by decide +kernel
theorem dX4_fold_45 : decode cX4_fold 45 = .ok (.if_icmp .ge 10, 3) := by decide +kernel
theorem dX4_fold_48 : decode cX4_fold 48 = .ok (.aload_n 0, 1) := by decide +kernel
theorem dX4_fold_49 : decode cX4_fold 49 = .ok (.invokevirtual 54, 3) := by decide +kernel
theorem dX4_fold_52 : decode cX4_fold 52 = .ok (.ifCond .eq 13, 3) := by decide +kernel
theorem dX4_fold_55 : decode cX4_fold 55 = .ok (.new 58, 3) := by decide +kernel
theorem dX4_fold_58 : decode cX4_fold 58 = .ok (.dup, 1) := by decide +kernel
theorem dX4_fold_59 : decode cX4_fold 59 = .ok (.ldc 60, 2) := by decide +kernel
theorem dX4_fold_61 : decode cX4_fold 61 = .ok (.invokespecial 62, 3) := by decide +kernel
theorem dX4_fold_64 : decode cX4_fold 64 = .ok (.athrow, 1) := by decide +kernel
theorem dX4_fold_65 : decode cX4_fold 65 = .ok (.aload_n 0, 1) := by decide +kernel
theorem dX4_fold_66 : decode cX4_fold 66 = .ok (.getfield 10, 3) := by decide +kernel
theorem dX4_fold_69 : decode cX4_fold 69 = .ok (.new 26, 3) := by decide +kernel
theorem dX4_fold_72 : decode cX4_fold 72 = .ok (.dup, 1) := by decide +kernel
theorem dX4_fold_73 : decode cX4_fold 73 = .ok (.aload_n 0, 1) := by decide +kernel
theorem dX4_fold_74 : decode cX4_fold 74 = .ok (.getfield 10, 3) := by decide +kernel
theorem dX4_fold_77 : decode cX4_fold 77 = .ok (.invokevirtual 50, 3) := by decide +kernel
theorem dX4_fold_80 : decode cX4_fold 80 = .ok (.aload_n 0, 1) := by decide +kernel
theorem dX4_fold_81 : decode cX4_fold 81 = .ok (.getfield 10, 3) := by decide +kernel
theorem dX4_fold_84 : decode cX4_fold 84 = .ok (.iload_n 1, 1) := by decide +kernel
theorem dX4_fold_85 : decode cX4_fold 85 = .ok (.invokevirtual 63, 3) := by decide +kernel
theorem dX4_fold_88 : decode cX4_fold 88 = .ok (.checkcast 26, 3) := by decide +kernel
theorem dX4_fold_91 : decode cX4_fold 91 = .ok (.iload_n 2, 1) := by decide +kernel
theorem dX4_fold_92 : decode cX4_fold 92 = .ok (.iload_n 3, 1) := by decide +kernel
theorem dX4_fold_93 : decode cX4_fold 93 = .ok (.invokespecial 28, 3) := by decide +kernel
theorem dX4_fold_96 : decode cX4_fold 96 = .ok (.invokevirtual 31, 3) := by decide +kernel
theorem dX4_fold_99 : decode cX4_fold 99 = .ok (.pop, 1) := by decide +kernel
theorem dX4_fold_100 : decode cX4_fold 100 = .ok (.aload_n 0, 1) := by decide +kernel
theorem dX4_fold_101 : decode cX4_fold 101 = .ok (.getfield 10, 3) := by decide +kernel
theorem dX4_fold_104 : decode cX4_fold 104 = .ok (.invokevirtual 50, 3) := by decide +kernel
theorem dX4_fold_107 : decode cX4_fold 107 = .ok (.iconst 1, 1) := by decide +kernel
theorem dX4_fold_108 : decode cX4_fold 108 = .ok (.isub, 1) := by decide +kernel
theorem dX4_fold_109 : decode cX4_fold 109 = .ok (.ireturn, 1) := by decide +kernel
theorem dX4_part_0 : decode cX4_part 0 = .ok (.aload_n 0, 1) := by decide +kernel
theorem dX4_part_1 : decode cX4_part 1 = .ok (.iload_n 1, 1) := by decide +kernel
theorem dX4_part_2 : decode cX4_part 2 = .ok (.invokevirtual 35, 3) := by decide +kernel
theorem dX4_part_5 : decode cX4_part 5 = .ok (.iload_n 2, 1) := by decide +kernel
theorem dX4_part_6 : decode cX4_part 6 = .ok (.iconst 0, 1) := by decide +kernel
theorem dX4_part_7 : decode cX4_part 7 = .ok (.bipush 60, 2) := by decide +kernel
theorem dX4_part_9 : decode cX4_part 9 = .ok (.invokestatic 39, 3) := by decide +kernel
theorem dX4_part_12 : decode cX4_part 12 = .ok (.ifCond .ne 25, 3) := by decide +kernel
theorem dX4_part_15 : decode cX4_part 15 = .ok (.iload 4, 2) := by decide +kernel
theorem dX4_part_17 : decode cX4_part 17 = .ok (.iconst 0, 1) := by decide +kernel
theorem dX4_part_18 : decode cX4_part 18 = .ok (.bipush 20, 2) := by decide +kernel
theorem dX4_part_20 : decode cX4_part 20 = .ok (.invokestatic 39, 3) := by decide +kernel
theorem dX4_part_23 : decode cX4_part 23 = .ok (.ifCond .ne 14, 3) := by decide +kernel
theorem dX4_part_26 : decode cX4_part 26 = .ok (.iload 5, 2) := by decide +kernel
theorem dX4_part_28 : decode cX4_part 28 = .ok (.iconst 1, 1) := by decide +kernel
theorem dX4_part_29 : decode cX4_part 29 = .ok (.bipush 10, 2) := by decide +kernel
theorem dX4_part_31 : decode cX4_part 31 = .ok (.invokestatic 39, 3) := by decide +kernel
theorem dX4_part_34 : decode cX4_part 34 = .ok (.ifCond .eq 13, 3) := by decide +kernel
theorem dX4_part_37 : decode cX4_part 37 = .ok (.new 43, 3) := by decide +kernel
theorem dX4_part_40 : decode cX4_part 40 = .ok (.dup, 1) := by decide +kernel
theorem dX4_part_41 : decode cX4_part 41 = .ok (.ldc 67, 2) := by decide +kernel
theorem dX4_part_43 : decode cX4_part 43 = .ok (.invokespecial 47, 3) := by decide +kernel
theorem dX4_part_46 : decode cX4_part 46 = .ok (.athrow, 1) := by decide +kernel
theorem dX4_part_47 : decode cX4_part 47 = .ok (.iload_n 3, 1) := by decide +kernel
theorem dX4_part_48 : decode cX4_part 48 = .ok (.invokestatic 69, 3) := by decide +kernel
theorem dX4_part_51 : decode cX4_part 51 = .ok (.aload_n 0, 1) := by decide +kernel
theorem dX4_part_52 : decode cX4_part 52 = .ok (.getfield 16, 3) := by decide +kernel
theorem dX4_part_55 : decode cX4_part 55 = .ok (.invokevirtual 50, 3) := by decide +kernel
theorem dX4_part_58 : decode cX4_part 58 = .ok (.bipush 16, 2) := by decide +kernel
theorem dX4_part_60 : decode cX4_part 60 = .ok (.if_icmp .ge 10, 3) := by decide +kernel
theorem dX4_part_63 : decode cX4_part 63 = .ok (.aload_n 0, 1) := by decide +kernel
theorem dX4_part_64 : decode cX4_part 64 = .ok (.invokevirtual 54, 3) := by decide +kernel
theorem dX4_part_67 : decode cX4_part 67 = .ok (.ifCond .eq 13, 3) := by decide +kernel
theorem dX4_part_70 : decode cX4_part 70 = .ok (.new 58, 3) := by decide +kernel
theorem dX4_part_73 : decode cX4_part 73 = .ok (.dup, 1) := by decide +kernel
theorem dX4_part_74 : decode cX4_part 74 = .ok (.ldc 72, 2) := by decide +kernel
theorem dX4_part_76 : decode cX4_part 76 = .ok (.invokespecial 62, 3) := by decide +kernel
theorem dX4_part_79 : decode cX4_part 79 = .ok (.athrow, 1) := by decide +kernel
theorem dX4_part_80 : decode cX4_part 80 = .ok (.aload_n 0, 1) := by decide +kernel
theorem dX4_part_81 : decode cX4_part 81 = .ok (.getfield 16, 3) := by decide +kernel
theorem dX4_part_84 : decode cX4_part 84 = .ok (.new 74, 3) := by decide +kernel
theorem dX4_part_87 : decode cX4_part 87 = .ok (.dup, 1) := by decide +kernel
theorem dX4_part_88 : decode cX4_part 88 = .ok (.aload_n 0, 1) := by decide +kernel
theorem dX4_part_89 : decode cX4_part 89 = .ok (.getfield 10, 3) := by decide +kernel
theorem dX4_part_92 : decode cX4_part 92 = .ok (.iload_n 1, 1) := by decide +kernel
theorem dX4_part_93 : decode cX4_part 93 = .ok (.invokevirtual 63, 3) := by decide +kernel
theorem dX4_part_96 : decode cX4_part 96 = .ok (.checkcast 26, 3) := by decide +kernel
theorem dX4_part_99 : decode cX4_part 99 = .ok (.iload_n 2, 1) := by decide +kernel
theorem dX4_part_100 : decode cX4_part 100 = .ok (.iload_n 3, 1) := by decide +kernel
theorem dX4_part_101 : decode cX4_part 101 = .ok (.iload 4, 2) := by decide +kernel
theorem dX4_part_103 : decode cX4_part 103 = .ok (.iload 5, 2) := by decide +kernel
theorem dX4_part_105 : decode cX4_part 105 = .ok (.iload 6, 2) := by decide +kernel
theorem dX4_part_107 : decode cX4_part 107 = .ok (.invokespecial 76, 3) := by decide +kernel
theorem dX4_part_110 : decode cX4_part 110 = .ok (.invokevirtual 31, 3) := by decide +kernel
theorem dX4_part_113 : decode cX4_part 113 = .ok (.pop, 1) := by decide +kernel
theorem dX4_part_114 : decode cX4_part 114 = .ok (.aload_n 0, 1) := by decide +kernel
theorem dX4_part_115 : decode cX4_part 115 = .ok (.getfield 16, 3) := by decide +kernel
theorem dX4_part_118 : decode cX4_part 118 = .ok (.invokevirtual 50, 3) := by decide +kernel
theorem dX4_part_121 : decode cX4_part 121 = .ok (.iconst 1, 1) := by decide +kernel
theorem dX4_part_122 : decode cX4_part 122 = .ok (.isub, 1) := by decide +kernel
theorem dX4_part_123 : decode cX4_part 123 = .ok (.ireturn, 1) := by decide +kernel
theorem dX4_angle_0 : decode cX4_angle 0 = .ok (.aload_n 0, 1) := by decide +kernel
theorem dX4_angle_1 : decode cX4_angle 1 = .ok (.iload_n 1, 1) := by decide +kernel
theorem dX4_angle_2 : decode cX4_angle 2 = .ok (.invokevirtual 35, 3) := by decide +kernel
theorem dX4_angle_5 : decode cX4_angle 5 = .ok (.iload_n 2, 1) := by decide +kernel
theorem dX4_angle_6 : decode cX4_angle 6 = .ok (.invokestatic 79, 3) := by decide +kernel
theorem dX4_angle_9 : decode cX4_angle 9 = .ok (.aload_n 0, 1) := by decide +kernel
theorem dX4_angle_10 : decode cX4_angle 10 = .ok (.iload_n 2, 1) := by decide +kernel
theorem dX4_angle_11 : decode cX4_angle 11 = .ok (.invokevirtual 82, 3) := by decide +kernel
theorem dX4_angle_14 : decode cX4_angle 14 = .ok (.aload_n 0, 1) := by decide +kernel
theorem dX4_angle_15 : decode cX4_angle 15 = .ok (.getfield 10, 3) := by decide +kernel
theorem dX4_angle_18 : decode cX4_angle 18 = .ok (.iload_n 1, 1) := by decide +kernel
theorem dX4_angle_19 : decode cX4_angle 19 = .ok (.invokevirtual 63, 3) := by decide +kernel
theorem dX4_angle_22 : decode cX4_angle 22 = .ok (.checkcast 26, 3) := by decide +kernel
theorem dX4_angle_25 : decode cX4_angle 25 = .ok (.getfield 85, 3) := by decide +kernel
theorem dX4_angle_28 : decode cX4_angle 28 = .ok (.ireturn, 1) := by decide +kernel
theorem dX4_angleAnew_0 : decode cX4_angleAnew 0 = .ok (.aload_n 0, 1) := by decide +kernel
theorem dX4_angleAnew_1 : decode cX4_angleAnew 1 = .ok (.iload_n 1, 1) := by decide +kernel
theorem dX4_angleAnew_2 : decode cX4_angleAnew 2 = .ok (.invokevirtual 35, 3) := by decide +kernel
theorem dX4_angleAnew_5 : decode cX4_angleAnew 5 = .ok (.iload_n 2, 1) := by decide +kernel
theorem dX4_angleAnew_6 : decode cX4_angleAnew 6 = .ok (.invokestatic 79, 3) := by decide +kernel
theorem dX4_angleAnew_9 : decode cX4_angleAnew 9 = .ok (.aload_n 0, 1) := by decide +kernel
theorem dX4_angleAnew_10 : decode cX4_angleAnew 10 = .ok (.iload_n 2, 1) := by decide +kernel
theorem dX4_angleAnew_11 : decode cX4_angleAnew 11 = .ok (.invokevirtual 89, 3) := by decide +kernel
theorem dX4_angleAnew_14 : decode cX4_angleAnew 14 = .ok (.aload_n 0, 1) := by decide +kernel
theorem dX4_angleAnew_15 : decode cX4_angleAnew 15 = .ok (.getfield 10, 3) := by decide +kernel
theorem dX4_angleAnew_18 : decode cX4_angleAnew 18 = .ok (.iload_n 1, 1) := by decide +kernel
theorem dX4_angleAnew_19 : decode cX4_angleAnew 19 = .ok (.invokevirtual 63, 3) := by decide +kernel
theorem dX4_angleAnew_22 : decode cX4_angleAnew 22 = .ok (.checkcast 26, 3) := by decide +kernel
theorem dX4_angleAnew_25 : decode cX4_angleAnew 25 = .ok (.getfield 85, 3) := by decide +kernel
theorem dX4_angleAnew_28 : decode cX4_angleAnew 28 = .ok (.ireturn, 1) := by decide +kernel
theorem dX4_where_0 : decode cX4_where 0 = .ok (.aload_n 0, 1) := by decide +kernel
theorem dX4_where_1 : decode cX4_where 1 = .ok (.iload_n 1, 1) := by decide +kernel
theorem dX4_where_2 : decode cX4_where 2 = .ok (.invokevirtual 92, 3) := by decide +kernel
theorem dX4_where_5 : decode cX4_where 5 = .ok (.iload_n 2, 1) := by decide +kernel
theorem dX4_where_6 : decode cX4_where 6 = .ok (.invokestatic 79, 3) := by decide +kernel
theorem dX4_where_9 : decode cX4_where 9 = .ok (.iload_n 3, 1) := by decide +kernel
theorem dX4_where_10 : decode cX4_where 10 = .ok (.invokestatic 95, 3) := by decide +kernel
theorem dX4_where_13 : decode cX4_where 13 = .ok (.aload_n 0, 1) := by decide +kernel
theorem dX4_where_14 : decode cX4_where 14 = .ok (.iload_n 2, 1) := by decide +kernel
theorem dX4_where_15 : decode cX4_where 15 = .ok (.invokevirtual 82, 3) := by decide +kernel
theorem dX4_where_18 : decode cX4_where 18 = .ok (.aload_n 0, 1) := by decide +kernel
theorem dX4_where_19 : decode cX4_where 19 = .ok (.getfield 16, 3) := by decide +kernel
theorem dX4_where_22 : decode cX4_where 22 = .ok (.iload_n 1, 1) := by decide +kernel
theorem dX4_where_23 : decode cX4_where 23 = .ok (.invokevirtual 63, 3) := by decide +kernel
theorem dX4_where_26 : decode cX4_where 26 = .ok (.checkcast 74, 3) := by decide +kernel
theorem dX4_where_29 : decode cX4_where 29 = .ok (.astore 4, 2) := by decide +kernel
theorem dX4_where_31 : decode cX4_where 31 = .ok (.iload_n 3, 1) := by decide +kernel
theorem dX4_where_32 : decode cX4_where 32 = .ok (.ifCond .ne 9, 3) := by decide +kernel
theorem dX4_where_35 : decode cX4_where 35 = .ok (.aload 4, 2) := by decide +kernel
theorem dX4_where_37 : decode cX4_where 37 = .ok (.invokevirtual 98, 3) := by decide +kernel
theorem dX4_where_40 : decode cX4_where 40 = .ok (.ireturn, 1) := by decide +kernel
theorem dX4_where_41 : decode cX4_where 41 = .ok (.iload_n 3, 1) := by decide +kernel
theorem dX4_where_42 : decode cX4_where 42 = .ok (.iconst 1, 1) := by decide +kernel
theorem dX4_where_43 : decode cX4_where 43 = .ok (.if_icmp .ne 11, 3) := by decide +kernel
theorem dX4_where_46 : decode cX4_where 46 = .ok (.aload 4, 2) := by decide +kernel
theorem dX4_where_48 : decode cX4_where 48 = .ok (.invokevirtual 101, 3) := by decide +kernel
theorem dX4_where_51 : decode cX4_where 51 = .ok (.goto 8, 3) := by decide +kernel
theorem dX4_where_54 : decode cX4_where 54 = .ok (.aload 4, 2) := by decide +kernel
theorem dX4_where_56 : decode cX4_where 56 = .ok (.invokevirtual 104, 3) := by decide +kernel
theorem dX4_where_59 : decode cX4_where 59 = .ok (.ireturn, 1) := by decide +kernel
theorem dX4_meet_0 : decode cX4_meet 0 = .ok (.aload_n 0, 1) := by decide +kernel
theorem dX4_meet_1 : decode cX4_meet 1 = .ok (.iload_n 1, 1) := by decide +kernel
theorem dX4_meet_2 : decode cX4_meet 2 = .ok (.invokevirtual 92, 3) := by decide +kernel
theorem dX4_meet_5 : decode cX4_meet 5 = .ok (.aload_n 0, 1) := by decide +kernel
theorem dX4_meet_6 : decode cX4_meet 6 = .ok (.iload_n 2, 1) := by decide +kernel
theorem dX4_meet_7 : decode cX4_meet 7 = .ok (.invokevirtual 92, 3) := by decide +kernel
theorem dX4_meet_10 : decode cX4_meet 10 = .ok (.iload_n 3, 1) := by decide +kernel
theorem dX4_meet_11 : decode cX4_meet 11 = .ok (.invokestatic 79, 3) := by decide +kernel
theorem dX4_meet_14 : decode cX4_meet 14 = .ok (.aload_n 0, 1) := by decide +kernel
theorem dX4_meet_15 : decode cX4_meet 15 = .ok (.iload_n 3, 1) := by decide +kernel
theorem dX4_meet_16 : decode cX4_meet 16 = .ok (.invokevirtual 82, 3) := by decide +kernel
theorem dX4_meet_19 : decode cX4_meet 19 = .ok (.iload_n 1, 1) := by decide +kernel
theorem dX4_meet_20 : decode cX4_meet 20 = .ok (.iload_n 2, 1) := by decide +kernel
theorem dX4_meet_21 : decode cX4_meet 21 = .ok (.if_icmp .eq 35, 3) := by decide +kernel
theorem dX4_meet_24 : decode cX4_meet 24 = .ok (.aload_n 0, 1) := by decide +kernel
theorem dX4_meet_25 : decode cX4_meet 25 = .ok (.getfield 16, 3) := by decide +kernel
theorem dX4_meet_28 : decode cX4_meet 28 = .ok (.iload_n 1, 1) := by decide +kernel
theorem dX4_meet_29 : decode cX4_meet 29 = .ok (.invokevirtual 63, 3) := by decide +kernel
theorem dX4_meet_32 : decode cX4_meet 32 = .ok (.checkcast 74, 3) := by decide +kernel
theorem dX4_meet_35 : decode cX4_meet 35 = .ok (.aload_n 0, 1) := by decide +kernel
theorem dX4_meet_36 : decode cX4_meet 36 = .ok (.getfield 16, 3) := by decide +kernel
theorem dX4_meet_39 : decode cX4_meet 39 = .ok (.iload_n 2, 1) := by decide +kernel
theorem dX4_meet_40 : decode cX4_meet 40 = .ok (.invokevirtual 63, 3) := by decide +kernel
theorem dX4_meet_43 : decode cX4_meet 43 = .ok (.checkcast 74, 3) := by decide +kernel
theorem dX4_meet_46 : decode cX4_meet 46 = .ok (.invokevirtual 107, 3) := by decide +kernel
theorem dX4_meet_49 : decode cX4_meet 49 = .ok (.ifCond .eq 7, 3) := by decide +kernel
theorem dX4_meet_52 : decode cX4_meet 52 = .ok (.iconst 1, 1) := by decide +kernel
theorem dX4_meet_53 : decode cX4_meet 53 = .ok (.goto 4, 3) := by decide +kernel
theorem dX4_meet_56 : decode cX4_meet 56 = .ok (.iconst 0, 1) := by decide +kernel
theorem dX4_meet_57 : decode cX4_meet 57 = .ok (.ireturn, 1) := by decide +kernel
theorem dX4_test_0 : decode cX4_test 0 = .ok (.iconst 0, 1) := by decide +kernel
theorem dX4_test_1 : decode cX4_test 1 = .ok (.istore_n 1, 1) := by decide +kernel
theorem dX4_test_2 : decode cX4_test 2 = .ok (.iload_n 1, 1) := by decide +kernel
theorem dX4_test_3 : decode cX4_test 3 = .ok (.sipush 180, 3) := by decide +kernel
theorem dX4_test_6 : decode cX4_test 6 = .ok (.if_icmp .gt 32, 3) := by decide +kernel
theorem dX4_test_9 : decode cX4_test 9 = .ok (.aload_n 0, 1) := by decide +kernel
theorem dX4_test_10 : decode cX4_test 10 = .ok (.iload_n 1, 1) := by decide +kernel
theorem dX4_test_11 : decode cX4_test 11 = .ok (.invokevirtual 82, 3) := by decide +kernel
theorem dX4_test_14 : decode cX4_test 14 = .ok (.aload_n 0, 1) := by decide +kernel
theorem dX4_test_15 : decode cX4_test 15 = .ok (.invokevirtual 111, 3) := by decide +kernel
theorem dX4_test_18 : decode cX4_test 18 = .ok (.istore_n 2, 1) := by decide +kernel
theorem dX4_test_19 : decode cX4_test 19 = .ok (.iload_n 2, 1) := by decide +kernel
theorem dX4_test_20 : decode cX4_test 20 = .ok (.iconst (-1), 1) := by decide +kernel
theorem dX4_test_21 : decode cX4_test 21 = .ok (.if_icmp .eq 11, 3) := by decide +kernel
theorem dX4_test_24 : decode cX4_test 24 = .ok (.sipush 1000, 3) := by decide +kernel
theorem dX4_test_27 : decode cX4_test 27 = .ok (.iload_n 2, 1) := by decide +kernel
theorem dX4_test_28 : decode cX4_test 28 = .ok (.imul, 1) := by decide +kernel
theorem dX4_test_29 : decode cX4_test 29 = .ok (.iload_n 1, 1) := by decide +kernel
theorem dX4_test_30 : decode cX4_test 30 = .ok (.iadd, 1) := by decide +kernel
theorem dX4_test_31 : decode cX4_test 31 = .ok (.ireturn, 1) := by decide +kernel
theorem dX4_test_32 : decode cX4_test 32 = .ok (.iinc 1 15, 3) := by decide +kernel
theorem dX4_test_35 : decode cX4_test 35 = .ok (.goto (-33), 3) := by decide +kernel
theorem dX4_test_38 : decode cX4_test 38 = .ok (.iconst (-1), 1) := by decide +kernel
theorem dX4_test_39 : decode cX4_test 39 = .ok (.ireturn, 1) := by decide +kernel
theorem dX4_sheets_0 : decode cX4_sheets 0 = .ok (.aload_n 0, 1) := by decide +kernel
theorem dX4_sheets_1 : decode cX4_sheets 1 = .ok (.invokevirtual 114, 3) := by decide +kernel
theorem dX4_sheets_4 : decode cX4_sheets 4 = .ok (.aload_n 0, 1) := by decide +kernel
theorem dX4_sheets_5 : decode cX4_sheets 5 = .ok (.getfield 117, 3) := by decide +kernel
theorem dX4_sheets_8 : decode cX4_sheets 8 = .ok (.ireturn, 1) := by decide +kernel
theorem dX4_laid_0 : decode cX4_laid 0 = .ok (.aload_n 0, 1) := by decide +kernel
theorem dX4_laid_1 : decode cX4_laid 1 = .ok (.iload_n 1, 1) := by decide +kernel
theorem dX4_laid_2 : decode cX4_laid 2 = .ok (.invokevirtual 92, 3) := by decide +kernel
theorem dX4_laid_5 : decode cX4_laid 5 = .ok (.iload_n 2, 1) := by decide +kernel
theorem dX4_laid_6 : decode cX4_laid 6 = .ok (.invokestatic 95, 3) := by decide +kernel
theorem dX4_laid_9 : decode cX4_laid 9 = .ok (.aload_n 0, 1) := by decide +kernel
theorem dX4_laid_10 : decode cX4_laid 10 = .ok (.invokevirtual 114, 3) := by decide +kernel
theorem dX4_laid_13 : decode cX4_laid 13 = .ok (.aload_n 0, 1) := by decide +kernel
theorem dX4_laid_14 : decode cX4_laid 14 = .ok (.getfield 16, 3) := by decide +kernel
theorem dX4_laid_17 : decode cX4_laid 17 = .ok (.iload_n 1, 1) := by decide +kernel
theorem dX4_laid_18 : decode cX4_laid 18 = .ok (.invokevirtual 63, 3) := by decide +kernel
theorem dX4_laid_21 : decode cX4_laid 21 = .ok (.checkcast 74, 3) := by decide +kernel
theorem dX4_laid_24 : decode cX4_laid 24 = .ok (.astore_n 3, 1) := by decide +kernel
theorem dX4_laid_25 : decode cX4_laid 25 = .ok (.iload_n 2, 1) := by decide +kernel
theorem dX4_laid_26 : decode cX4_laid 26 = .ok (.ifCond .ne 8, 3) := by decide +kernel
theorem dX4_laid_29 : decode cX4_laid 29 = .ok (.aload_n 3, 1) := by decide +kernel
theorem dX4_laid_30 : decode cX4_laid 30 = .ok (.getfield 120, 3) := by decide +kernel
theorem dX4_laid_33 : decode cX4_laid 33 = .ok (.ireturn, 1) := by decide +kernel
theorem dX4_laid_34 : decode cX4_laid 34 = .ok (.iload_n 2, 1) := by decide +kernel
theorem dX4_laid_35 : decode cX4_laid 35 = .ok (.iconst 1, 1) := by decide +kernel
theorem dX4_laid_36 : decode cX4_laid 36 = .ok (.if_icmp .ne 10, 3) := by decide +kernel
theorem dX4_laid_39 : decode cX4_laid 39 = .ok (.aload_n 3, 1) := by decide +kernel
theorem dX4_laid_40 : decode cX4_laid 40 = .ok (.getfield 123, 3) := by decide +kernel
theorem dX4_laid_43 : decode cX4_laid 43 = .ok (.goto 7, 3) := by decide +kernel
theorem dX4_laid_46 : decode cX4_laid 46 = .ok (.aload_n 3, 1) := by decide +kernel
theorem dX4_laid_47 : decode cX4_laid 47 = .ok (.getfield 126, 3) := by decide +kernel
theorem dX4_laid_50 : decode cX4_laid 50 = .ok (.ireturn, 1) := by decide +kernel
theorem dX4_glue_0 : decode cX4_glue 0 = .ok (.aload_n 0, 1) := by decide +kernel
theorem dX4_glue_1 : decode cX4_glue 1 = .ok (.iload_n 1, 1) := by decide +kernel
theorem dX4_glue_2 : decode cX4_glue 2 = .ok (.invokevirtual 92, 3) := by decide +kernel
theorem dX4_glue_5 : decode cX4_glue 5 = .ok (.aload_n 0, 1) := by decide +kernel
theorem dX4_glue_6 : decode cX4_glue 6 = .ok (.getfield 16, 3) := by decide +kernel
theorem dX4_glue_9 : decode cX4_glue 9 = .ok (.iload_n 1, 1) := by decide +kernel
theorem dX4_glue_10 : decode cX4_glue 10 = .ok (.invokevirtual 63, 3) := by decide +kernel
theorem dX4_glue_13 : decode cX4_glue 13 = .ok (.checkcast 74, 3) := by decide +kernel
theorem dX4_glue_16 : decode cX4_glue 16 = .ok (.astore_n 2, 1) := by decide +kernel
theorem dX4_glue_17 : decode cX4_glue 17 = .ok (.aload_n 2, 1) := by decide +kernel
theorem dX4_glue_18 : decode cX4_glue 18 = .ok (.invokevirtual 129, 3) := by decide +kernel
theorem dX4_glue_21 : decode cX4_glue 21 = .ok (.ifCond .eq 13, 3) := by decide +kernel
theorem dX4_glue_24 : decode cX4_glue 24 = .ok (.new 58, 3) := by decide +kernel
theorem dX4_glue_27 : decode cX4_glue 27 = .ok (.dup, 1) := by decide +kernel
theorem dX4_glue_28 : decode cX4_glue 28 = .ok (.ldc 132, 2) := by decide +kernel
theorem dX4_glue_30 : decode cX4_glue 30 = .ok (.invokespecial 62, 3) := by decide +kernel
theorem dX4_glue_33 : decode cX4_glue 33 = .ok (.athrow, 1) := by decide +kernel
theorem dX4_glue_34 : decode cX4_glue 34 = .ok (.aload_n 0, 1) := by decide +kernel
theorem dX4_glue_35 : decode cX4_glue 35 = .ok (.aload_n 2, 1) := by decide +kernel
theorem dX4_glue_36 : decode cX4_glue 36 = .ok (.invokevirtual 134, 3) := by decide +kernel
theorem dX4_glue_39 : decode cX4_glue 39 = .ok (.ifCond .ne 11, 3) := by decide +kernel
theorem dX4_glue_42 : decode cX4_glue 42 = .ok (.aload_n 0, 1) := by decide +kernel
theorem dX4_glue_43 : decode cX4_glue 43 = .ok (.aload_n 2, 1) := by decide +kernel
theorem dX4_glue_44 : decode cX4_glue 44 = .ok (.invokevirtual 137, 3) := by decide +kernel
theorem dX4_glue_47 : decode cX4_glue 47 = .ok (.ifCond .ne 13, 3) := by decide +kernel
theorem dX4_glue_50 : decode cX4_glue 50 = .ok (.new 58, 3) := by decide +kernel
theorem dX4_glue_53 : decode cX4_glue 53 = .ok (.dup, 1) := by decide +kernel
theorem dX4_glue_54 : decode cX4_glue 54 = .ok (.ldc 140, 2) := by decide +kernel
theorem dX4_glue_56 : decode cX4_glue 56 = .ok (.invokespecial 62, 3) := by decide +kernel
theorem dX4_glue_59 : decode cX4_glue 59 = .ok (.athrow, 1) := by decide +kernel
theorem dX4_glue_60 : decode cX4_glue 60 = .ok (.aload_n 2, 1) := by decide +kernel
theorem dX4_glue_61 : decode cX4_glue 61 = .ok (.aload_n 0, 1) := by decide +kernel
theorem dX4_glue_62 : decode cX4_glue 62 = .ok (.getfield 142, 3) := by decide +kernel
theorem dX4_glue_65 : decode cX4_glue 65 = .ok (.putfield 145, 3) := by decide +kernel
theorem dX4_glue_68 : decode cX4_glue 68 = .ok (.aload_n 0, 1) := by decide +kernel
theorem dX4_glue_69 : decode cX4_glue 69 = .ok (.dup, 1) := by decide +kernel
theorem dX4_glue_70 : decode cX4_glue 70 = .ok (.getfield 142, 3) := by decide +kernel
theorem dX4_glue_73 : decode cX4_glue 73 = .ok (.iconst 1, 1) := by decide +kernel
theorem dX4_glue_74 : decode cX4_glue 74 = .ok (.iadd, 1) := by decide +kernel
theorem dX4_glue_75 : decode cX4_glue 75 = .ok (.putfield 142, 3) := by decide +kernel
theorem dX4_glue_78 : decode cX4_glue 78 = .ok (.aload_n 0, 1) := by decide +kernel
theorem dX4_glue_79 : decode cX4_glue 79 = .ok (.getfield 142, 3) := by decide +kernel
theorem dX4_glue_82 : decode cX4_glue 82 = .ok (.ireturn, 1) := by decide +kernel
theorem dX4_unglue_0 : decode cX4_unglue 0 = .ok (.aload_n 0, 1) := by decide +kernel
theorem dX4_unglue_1 : decode cX4_unglue 1 = .ok (.getfield 142, 3) := by decide +kernel
theorem dX4_unglue_4 : decode cX4_unglue 4 = .ok (.ifCond .ne 13, 3) := by decide +kernel
theorem dX4_unglue_7 : decode cX4_unglue 7 = .ok (.new 58, 3) := by decide +kernel
theorem dX4_unglue_10 : decode cX4_unglue 10 = .ok (.dup, 1) := by decide +kernel
theorem dX4_unglue_11 : decode cX4_unglue 11 = .ok (.ldc 148, 2) := by decide +kernel
theorem dX4_unglue_13 : decode cX4_unglue 13 = .ok (.invokespecial 62, 3) := by decide +kernel
theorem dX4_unglue_16 : decode cX4_unglue 16 = .ok (.athrow, 1) := by decide +kernel
theorem dX4_unglue_17 : decode cX4_unglue 17 = .ok (.aload_n 0, 1) := by decide +kernel
theorem dX4_unglue_18 : decode cX4_unglue 18 = .ok (.aload_n 0, 1) := by decide +kernel
theorem dX4_unglue_19 : decode cX4_unglue 19 = .ok (.getfield 142, 3) := by decide +kernel
theorem dX4_unglue_22 : decode cX4_unglue 22 = .ok (.iconst 1, 1) := by decide +kernel
theorem dX4_unglue_23 : decode cX4_unglue 23 = .ok (.isub, 1) := by decide +kernel
theorem dX4_unglue_24 : decode cX4_unglue 24 = .ok (.invokevirtual 150, 3) := by decide +kernel
theorem dX4_unglue_27 : decode cX4_unglue 27 = .ok (.istore_n 1, 1) := by decide +kernel
theorem dX4_unglue_28 : decode cX4_unglue 28 = .ok (.aload_n 0, 1) := by decide +kernel
theorem dX4_unglue_29 : decode cX4_unglue 29 = .ok (.aload_n 0, 1) := by decide +kernel
theorem dX4_unglue_30 : decode cX4_unglue 30 = .ok (.getfield 142, 3) := by decide +kernel
theorem dX4_unglue_33 : decode cX4_unglue 33 = .ok (.iconst 1, 1) := by decide +kernel
theorem dX4_unglue_34 : decode cX4_unglue 34 = .ok (.isub, 1) := by decide +kernel
theorem dX4_unglue_35 : decode cX4_unglue 35 = .ok (.invokevirtual 154, 3) := by decide +kernel
theorem dX4_unglue_38 : decode cX4_unglue 38 = .ok (.pop, 1) := by decide +kernel
theorem dX4_unglue_39 : decode cX4_unglue 39 = .ok (.iload_n 1, 1) := by decide +kernel
theorem dX4_unglue_40 : decode cX4_unglue 40 = .ok (.ireturn, 1) := by decide +kernel
theorem dX4_glued_0 : decode cX4_glued 0 = .ok (.iload_n 1, 1) := by decide +kernel
theorem dX4_glued_1 : decode cX4_glued 1 = .ok (.ifCond .ge 13, 3) := by decide +kernel
theorem dX4_glued_4 : decode cX4_glued 4 = .ok (.new 157, 3) := by decide +kernel
theorem dX4_glued_7 : decode cX4_glued 7 = .ok (.dup, 1) := by decide +kernel
theorem dX4_glued_8 : decode cX4_glued 8 = .ok (.ldc 159, 2) := by decide +kernel
theorem dX4_glued_10 : decode cX4_glued 10 = .ok (.invokespecial 161, 3) := by decide +kernel
theorem dX4_glued_13 : decode cX4_glued 13 = .ok (.athrow, 1) := by decide +kernel
theorem dX4_glued_14 : decode cX4_glued 14 = .ok (.aload_n 0, 1) := by decide +kernel
theorem dX4_glued_15 : decode cX4_glued 15 = .ok (.iload_n 1, 1) := by decide +kernel
theorem dX4_glued_16 : decode cX4_glued 16 = .ok (.invokevirtual 150, 3) := by decide +kernel
theorem dX4_glued_19 : decode cX4_glued 19 = .ok (.ireturn, 1) := by decide +kernel
theorem dX4_resize_0 : decode cX4_resize 0 = .ok (.aload_n 0, 1) := by decide +kernel
theorem dX4_resize_1 : decode cX4_resize 1 = .ok (.iload_n 1, 1) := by decide +kernel
theorem dX4_resize_2 : decode cX4_resize 2 = .ok (.invokevirtual 92, 3) := by decide +kernel
theorem dX4_resize_5 : decode cX4_resize 5 = .ok (.iload_n 2, 1) := by decide +kernel
theorem dX4_resize_6 : decode cX4_resize 6 = .ok (.invokestatic 69, 3) := by decide +kernel
theorem dX4_resize_9 : decode cX4_resize 9 = .ok (.aload_n 0, 1) := by decide +kernel
theorem dX4_resize_10 : decode cX4_resize 10 = .ok (.getfield 16, 3) := by decide +kernel
theorem dX4_resize_13 : decode cX4_resize 13 = .ok (.iload_n 1, 1) := by decide +kernel
theorem dX4_resize_14 : decode cX4_resize 14 = .ok (.invokevirtual 63, 3) := by decide +kernel
theorem dX4_resize_17 : decode cX4_resize 17 = .ok (.checkcast 74, 3) := by decide +kernel
theorem dX4_resize_20 : decode cX4_resize 20 = .ok (.astore_n 3, 1) := by decide +kernel
theorem dX4_resize_21 : decode cX4_resize 21 = .ok (.aload_n 3, 1) := by decide +kernel
theorem dX4_resize_22 : decode cX4_resize 22 = .ok (.iload_n 2, 1) := by decide +kernel
theorem dX4_resize_23 : decode cX4_resize 23 = .ok (.putfield 162, 3) := by decide +kernel
theorem dX4_resize_26 : decode cX4_resize 26 = .ok (.aload_n 3, 1) := by decide +kernel
theorem dX4_resize_27 : decode cX4_resize 27 = .ok (.invokevirtual 129, 3) := by decide +kernel
theorem dX4_resize_30 : decode cX4_resize 30 = .ok (.ifCond .eq 14, 3) := by decide +kernel
theorem dX4_resize_33 : decode cX4_resize 33 = .ok (.aload_n 0, 1) := by decide +kernel
theorem dX4_resize_34 : decode cX4_resize 34 = .ok (.aload_n 3, 1) := by decide +kernel
theorem dX4_resize_35 : decode cX4_resize 35 = .ok (.getfield 145, 3) := by decide +kernel
theorem dX4_resize_38 : decode cX4_resize 38 = .ok (.invokevirtual 154, 3) := by decide +kernel
theorem dX4_resize_41 : decode cX4_resize 41 = .ok (.goto 4, 3) := by decide +kernel
theorem dX4_resize_44 : decode cX4_resize 44 = .ok (.iconst 0, 1) := by decide +kernel
theorem dX4_resize_45 : decode cX4_resize 45 = .ok (.ireturn, 1) := by decide +kernel
theorem dX4_isBound_0 : decode cX4_isBound 0 = .ok (.aload_n 0, 1) := by decide +kernel
theorem dX4_isBound_1 : decode cX4_isBound 1 = .ok (.getfield 16, 3) := by decide +kernel
theorem dX4_isBound_4 : decode cX4_isBound 4 = .ok (.invokevirtual 165, 3) := by decide +kernel
theorem dX4_isBound_7 : decode cX4_isBound 7 = .ok (.ifCond .ne 29, 3) := by decide +kernel
theorem dX4_isBound_10 : decode cX4_isBound 10 = .ok (.aload_n 0, 1) := by decide +kernel
theorem dX4_isBound_11 : decode cX4_isBound 11 = .ok (.getfield 142, 3) := by decide +kernel
theorem dX4_isBound_14 : decode cX4_isBound 14 = .ok (.aload_n 0, 1) := by decide +kernel
theorem dX4_isBound_15 : decode cX4_isBound 15 = .ok (.getfield 16, 3) := by decide +kernel
theorem dX4_isBound_18 : decode cX4_isBound 18 = .ok (.invokevirtual 50, 3) := by decide +kernel
theorem dX4_isBound_21 : decode cX4_isBound 21 = .ok (.if_icmp .ne 15, 3) := by decide +kernel
theorem dX4_isBound_24 : decode cX4_isBound 24 = .ok (.aload_n 0, 1) := by decide +kernel
theorem dX4_isBound_25 : decode cX4_isBound 25 = .ok (.invokevirtual 168, 3) := by decide +kernel
theorem dX4_isBound_28 : decode cX4_isBound 28 = .ok (.iconst (-1), 1) := by decide +kernel
theorem dX4_isBound_29 : decode cX4_isBound 29 = .ok (.if_icmp .ne 7, 3) := by decide +kernel
theorem dX4_isBound_32 : decode cX4_isBound 32 = .ok (.iconst 1, 1) := by decide +kernel
theorem dX4_isBound_33 : decode cX4_isBound 33 = .ok (.goto 4, 3) := by decide +kernel
theorem dX4_isBound_36 : decode cX4_isBound 36 = .ok (.iconst 0, 1) := by decide +kernel
theorem dX4_isBound_37 : decode cX4_isBound 37 = .ok (.ireturn, 1) := by decide +kernel
theorem dX4_tells_0 : decode cX4_tells 0 = .ok (.aload_n 0, 1) := by decide +kernel
theorem dX4_tells_1 : decode cX4_tells 1 = .ok (.iload_n 1, 1) := by decide +kernel
theorem dX4_tells_2 : decode cX4_tells 2 = .ok (.invokevirtual 35, 3) := by decide +kernel
theorem dX4_tells_5 : decode cX4_tells 5 = .ok (.iload_n 2, 1) := by decide +kernel
theorem dX4_tells_6 : decode cX4_tells 6 = .ok (.ifCond .ge 13, 3) := by decide +kernel
theorem dX4_tells_9 : decode cX4_tells 9 = .ok (.new 157, 3) := by decide +kernel
theorem dX4_tells_12 : decode cX4_tells 12 = .ok (.dup, 1) := by decide +kernel
theorem dX4_tells_13 : decode cX4_tells 13 = .ok (.ldc 171, 2) := by decide +kernel
theorem dX4_tells_15 : decode cX4_tells 15 = .ok (.invokespecial 161, 3) := by decide +kernel
theorem dX4_tells_18 : decode cX4_tells 18 = .ok (.athrow, 1) := by decide +kernel
theorem dX4_tells_19 : decode cX4_tells 19 = .ok (.aload_n 0, 1) := by decide +kernel
theorem dX4_tells_20 : decode cX4_tells 20 = .ok (.aload_n 0, 1) := by decide +kernel
theorem dX4_tells_21 : decode cX4_tells 21 = .ok (.getfield 10, 3) := by decide +kernel
theorem dX4_tells_24 : decode cX4_tells 24 = .ok (.iload_n 1, 1) := by decide +kernel
theorem dX4_tells_25 : decode cX4_tells 25 = .ok (.invokevirtual 63, 3) := by decide +kernel
theorem dX4_tells_28 : decode cX4_tells 28 = .ok (.checkcast 26, 3) := by decide +kernel
theorem dX4_tells_31 : decode cX4_tells 31 = .ok (.invokevirtual 173, 3) := by decide +kernel
theorem dX4_tells_34 : decode cX4_tells 34 = .ok (.iload_n 2, 1) := by decide +kernel
theorem dX4_tells_35 : decode cX4_tells 35 = .ok (.aload_n 0, 1) := by decide +kernel
theorem dX4_tells_36 : decode cX4_tells 36 = .ok (.getfield 22, 3) := by decide +kernel
theorem dX4_tells_39 : decode cX4_tells 39 = .ok (.invokevirtual 177, 3) := by decide +kernel
theorem dX4_tells_42 : decode cX4_tells 42 = .ok (.if_icmp .ge 14, 3) := by decide +kernel
theorem dX4_tells_45 : decode cX4_tells 45 = .ok (.aload_n 0, 1) := by decide +kernel
theorem dX4_tells_46 : decode cX4_tells 46 = .ok (.getfield 22, 3) := by decide +kernel
theorem dX4_tells_49 : decode cX4_tells 49 = .ok (.iload_n 2, 1) := by decide +kernel
theorem dX4_tells_50 : decode cX4_tells 50 = .ok (.invokevirtual 179, 3) := by decide +kernel
theorem dX4_tells_53 : decode cX4_tells 53 = .ok (.goto 4, 3) := by decide +kernel
theorem dX4_tells_56 : decode cX4_tells 56 = .ok (.iconst 0, 1) := by decide +kernel
theorem dX4_tells_57 : decode cX4_tells 57 = .ok (.ireturn, 1) := by decide +kernel
theorem dX4_requireFold_0 : decode cX4_requireFold 0 = .ok (.iload_n 1, 1) := by decide +kernel
theorem dX4_requireFold_1 : decode cX4_requireFold 1 = .ok (.iconst 0, 1) := by decide +kernel
theorem dX4_requireFold_2 : decode cX4_requireFold 2 = .ok (.aload_n 0, 1) := by decide +kernel
theorem dX4_requireFold_3 : decode cX4_requireFold 3 = .ok (.getfield 10, 3) := by decide +kernel
theorem dX4_requireFold_6 : decode cX4_requireFold 6 = .ok (.invokevirtual 50, 3) := by decide +kernel
theorem dX4_requireFold_9 : decode cX4_requireFold 9 = .ok (.iconst 1, 1) := by decide +kernel
theorem dX4_requireFold_10 : decode cX4_requireFold 10 = .ok (.isub, 1) := by decide +kernel
theorem dX4_requireFold_11 : decode cX4_requireFold 11 = .ok (.invokestatic 39, 3) := by decide +kernel
theorem dX4_requireFold_14 : decode cX4_requireFold 14 = .ok (.ifCond .eq 13, 3) := by decide +kernel
theorem dX4_requireFold_17 : decode cX4_requireFold 17 = .ok (.new 157, 3) := by decide +kernel
theorem dX4_requireFold_20 : decode cX4_requireFold 20 = .ok (.dup, 1) := by decide +kernel
theorem dX4_requireFold_21 : decode cX4_requireFold 21 = .ok (.ldc 183, 2) := by decide +kernel
theorem dX4_requireFold_23 : decode cX4_requireFold 23 = .ok (.invokespecial 161, 3) := by decide +kernel
theorem dX4_requireFold_26 : decode cX4_requireFold 26 = .ok (.athrow, 1) := by decide +kernel
theorem dX4_requireFold_27 : decode cX4_requireFold 27 = .ok (.return_, 1) := by decide +kernel
theorem dX4_requirePart_0 : decode cX4_requirePart 0 = .ok (.iload_n 1, 1) := by decide +kernel
theorem dX4_requirePart_1 : decode cX4_requirePart 1 = .ok (.iconst 0, 1) := by decide +kernel
theorem dX4_requirePart_2 : decode cX4_requirePart 2 = .ok (.aload_n 0, 1) := by decide +kernel
theorem dX4_requirePart_3 : decode cX4_requirePart 3 = .ok (.getfield 16, 3) := by decide +kernel
theorem dX4_requirePart_6 : decode cX4_requirePart 6 = .ok (.invokevirtual 50, 3) := by decide +kernel
theorem dX4_requirePart_9 : decode cX4_requirePart 9 = .ok (.iconst 1, 1) := by decide +kernel
theorem dX4_requirePart_10 : decode cX4_requirePart 10 = .ok (.isub, 1) := by decide +kernel
theorem dX4_requirePart_11 : decode cX4_requirePart 11 = .ok (.invokestatic 39, 3) := by decide +kernel
theorem dX4_requirePart_14 : decode cX4_requirePart 14 = .ok (.ifCond .eq 13, 3) := by decide +kernel
theorem dX4_requirePart_17 : decode cX4_requirePart 17 = .ok (.new 157, 3) := by decide +kernel
theorem dX4_requirePart_20 : decode cX4_requirePart 20 = .ok (.dup, 1) := by decide +kernel
theorem dX4_requirePart_21 : decode cX4_requirePart 21 = .ok (.ldc 185, 2) := by decide +kernel
theorem dX4_requirePart_23 : decode cX4_requirePart 23 = .ok (.invokespecial 161, 3) := by decide +kernel
theorem dX4_requirePart_26 : decode cX4_requirePart 26 = .ok (.athrow, 1) := by decide +kernel
theorem dX4_requirePart_27 : decode cX4_requirePart 27 = .ok (.return_, 1) := by decide +kernel
theorem dX4_requireOpen_0 : decode cX4_requireOpen 0 = .ok (.iload_n 0, 1) := by decide +kernel
theorem dX4_requireOpen_1 : decode cX4_requireOpen 1 = .ok (.iconst 0, 1) := by decide +kernel
theorem dX4_requireOpen_2 : decode cX4_requireOpen 2 = .ok (.sipush 180, 3) := by decide +kernel
theorem dX4_requireOpen_5 : decode cX4_requireOpen 5 = .ok (.invokestatic 39, 3) := by decide +kernel
theorem dX4_requireOpen_8 : decode cX4_requireOpen 8 = .ok (.ifCond .eq 13, 3) := by decide +kernel
theorem dX4_requireOpen_11 : decode cX4_requireOpen 11 = .ok (.new 43, 3) := by decide +kernel
theorem dX4_requireOpen_14 : decode cX4_requireOpen 14 = .ok (.dup, 1) := by decide +kernel
theorem dX4_requireOpen_15 : decode cX4_requireOpen 15 = .ok (.ldc 187, 2) := by decide +kernel
theorem dX4_requireOpen_17 : decode cX4_requireOpen 17 = .ok (.invokespecial 47, 3) := by decide +kernel
theorem dX4_requireOpen_20 : decode cX4_requireOpen 20 = .ok (.athrow, 1) := by decide +kernel
theorem dX4_requireOpen_21 : decode cX4_requireOpen 21 = .ok (.return_, 1) := by decide +kernel
theorem dX4_requireWhat_0 : decode cX4_requireWhat 0 = .ok (.iload_n 0, 1) := by decide +kernel
theorem dX4_requireWhat_1 : decode cX4_requireWhat 1 = .ok (.iconst 0, 1) := by decide +kernel
theorem dX4_requireWhat_2 : decode cX4_requireWhat 2 = .ok (.iconst 2, 1) := by decide +kernel
theorem dX4_requireWhat_3 : decode cX4_requireWhat 3 = .ok (.invokestatic 39, 3) := by decide +kernel
theorem dX4_requireWhat_6 : decode cX4_requireWhat 6 = .ok (.ifCond .eq 13, 3) := by decide +kernel
theorem dX4_requireWhat_9 : decode cX4_requireWhat 9 = .ok (.new 43, 3) := by decide +kernel
theorem dX4_requireWhat_12 : decode cX4_requireWhat 12 = .ok (.dup, 1) := by decide +kernel
theorem dX4_requireWhat_13 : decode cX4_requireWhat 13 = .ok (.ldc 189, 2) := by decide +kernel
theorem dX4_requireWhat_15 : decode cX4_requireWhat 15 = .ok (.invokespecial 47, 3) := by decide +kernel
theorem dX4_requireWhat_18 : decode cX4_requireWhat 18 = .ok (.athrow, 1) := by decide +kernel
theorem dX4_requireWhat_19 : decode cX4_requireWhat 19 = .ok (.return_, 1) := by decide +kernel
theorem dX4_requireLength_0 : decode cX4_requireLength 0 = .ok (.iload_n 0, 1) := by decide +kernel
theorem dX4_requireLength_1 : decode cX4_requireLength 1 = .ok (.iconst 1, 1) := by decide +kernel
theorem dX4_requireLength_2 : decode cX4_requireLength 2 = .ok (.bipush 30, 2) := by decide +kernel
theorem dX4_requireLength_4 : decode cX4_requireLength 4 = .ok (.invokestatic 39, 3) := by decide +kernel
theorem dX4_requireLength_7 : decode cX4_requireLength 7 = .ok (.ifCond .eq 13, 3) := by decide +kernel
theorem dX4_requireLength_10 : decode cX4_requireLength 10 = .ok (.new 43, 3) := by decide +kernel
theorem dX4_requireLength_13 : decode cX4_requireLength 13 = .ok (.dup, 1) := by decide +kernel
theorem dX4_requireLength_14 : decode cX4_requireLength 14 = .ok (.ldc 191, 2) := by decide +kernel
theorem dX4_requireLength_16 : decode cX4_requireLength 16 = .ok (.invokespecial 47, 3) := by decide +kernel
theorem dX4_requireLength_19 : decode cX4_requireLength 19 = .ok (.athrow, 1) := by decide +kernel
theorem dX4_requireLength_20 : decode cX4_requireLength 20 = .ok (.return_, 1) := by decide +kernel
theorem dX4_isOutside_0 : decode cX4_isOutside 0 = .ok (.iload_n 0, 1) := by decide +kernel
theorem dX4_isOutside_1 : decode cX4_isOutside 1 = .ok (.iload_n 1, 1) := by decide +kernel
theorem dX4_isOutside_2 : decode cX4_isOutside 2 = .ok (.if_icmp .lt 8, 3) := by decide +kernel
theorem dX4_isOutside_5 : decode cX4_isOutside 5 = .ok (.iload_n 0, 1) := by decide +kernel
theorem dX4_isOutside_6 : decode cX4_isOutside 6 = .ok (.iload_n 2, 1) := by decide +kernel
theorem dX4_isOutside_7 : decode cX4_isOutside 7 = .ok (.if_icmp .le 7, 3) := by decide +kernel
theorem dX4_isOutside_10 : decode cX4_isOutside 10 = .ok (.iconst 1, 1) := by decide +kernel
theorem dX4_isOutside_11 : decode cX4_isOutside 11 = .ok (.goto 4, 3) := by decide +kernel
theorem dX4_isOutside_14 : decode cX4_isOutside 14 = .ok (.iconst 0, 1) := by decide +kernel
theorem dX4_isOutside_15 : decode cX4_isOutside 15 = .ok (.ireturn, 1) := by decide +kernel
theorem dX4_openTo_0 : decode cX4_openTo 0 = .ok (.iconst 0, 1) := by decide +kernel
theorem dX4_openTo_1 : decode cX4_openTo 1 = .ok (.istore_n 2, 1) := by decide +kernel
theorem dX4_openTo_2 : decode cX4_openTo 2 = .ok (.iload_n 2, 1) := by decide +kernel
theorem dX4_openTo_3 : decode cX4_openTo 3 = .ok (.aload_n 0, 1) := by decide +kernel
theorem dX4_openTo_4 : decode cX4_openTo 4 = .ok (.getfield 10, 3) := by decide +kernel
theorem dX4_openTo_7 : decode cX4_openTo 7 = .ok (.invokevirtual 50, 3) := by decide +kernel
theorem dX4_openTo_10 : decode cX4_openTo 10 = .ok (.if_icmp .ge 24, 3) := by decide +kernel
theorem dX4_openTo_13 : decode cX4_openTo 13 = .ok (.aload_n 0, 1) := by decide +kernel
theorem dX4_openTo_14 : decode cX4_openTo 14 = .ok (.getfield 10, 3) := by decide +kernel
theorem dX4_openTo_17 : decode cX4_openTo 17 = .ok (.iload_n 2, 1) := by decide +kernel
theorem dX4_openTo_18 : decode cX4_openTo 18 = .ok (.invokevirtual 63, 3) := by decide +kernel
theorem dX4_openTo_21 : decode cX4_openTo 21 = .ok (.checkcast 26, 3) := by decide +kernel
theorem dX4_openTo_24 : decode cX4_openTo 24 = .ok (.iload_n 1, 1) := by decide +kernel
theorem dX4_openTo_25 : decode cX4_openTo 25 = .ok (.invokevirtual 193, 3) := by decide +kernel
theorem dX4_openTo_28 : decode cX4_openTo 28 = .ok (.iinc 2 1, 3) := by decide +kernel
theorem dX4_openTo_31 : decode cX4_openTo 31 = .ok (.goto (-29), 3) := by decide +kernel
theorem dX4_openTo_34 : decode cX4_openTo 34 = .ok (.return_, 1) := by decide +kernel
theorem dX4_openByDegreesTo_0 : decode cX4_openByDegreesTo 0 = .ok (.aload_n 0, 1) := by decide +kernel
theorem dX4_openByDegreesTo_1 : decode cX4_openByDegreesTo 1 = .ok (.iconst 0, 1) := by decide +kernel
theorem dX4_openByDegreesTo_2 : decode cX4_openByDegreesTo 2 = .ok (.invokevirtual 82, 3) := by decide +kernel
theorem dX4_openByDegreesTo_5 : decode cX4_openByDegreesTo 5 = .ok (.iconst 1, 1) := by decide +kernel
theorem dX4_openByDegreesTo_6 : decode cX4_openByDegreesTo 6 = .ok (.istore_n 2, 1) := by decide +kernel
theorem dX4_openByDegreesTo_7 : decode cX4_openByDegreesTo 7 = .ok (.iload_n 2, 1) := by decide +kernel
theorem dX4_openByDegreesTo_8 : decode cX4_openByDegreesTo 8 = .ok (.iload_n 1, 1) := by decide +kernel
theorem dX4_openByDegreesTo_9 : decode cX4_openByDegreesTo 9 = .ok (.if_icmp .gt 42, 3) := by decide +kernel
theorem dX4_openByDegreesTo_12 : decode cX4_openByDegreesTo 12 = .ok (.iconst 0, 1) := by decide +kernel
theorem dX4_openByDegreesTo_13 : decode cX4_openByDegreesTo 13 = .ok (.istore_n 3, 1) := by decide +kernel
theorem dX4_openByDegreesTo_14 : decode cX4_openByDegreesTo 14 = .ok (.iload_n 3, 1) := by decide +kernel
theorem dX4_openByDegreesTo_15 : decode cX4_openByDegreesTo 15 = .ok (.aload_n 0, 1) := by decide +kernel
theorem dX4_openByDegreesTo_16 : decode cX4_openByDegreesTo 16 = .ok (.getfield 10, 3) := by decide +kernel
theorem dX4_openByDegreesTo_19 : decode cX4_openByDegreesTo 19 = .ok (.invokevirtual 50, 3) := by decide +kernel
theorem dX4_openByDegreesTo_22 : decode cX4_openByDegreesTo 22 = .ok (.if_icmp .ge 23, 3) := by decide +kernel
theorem dX4_openByDegreesTo_25 : decode cX4_openByDegreesTo 25 = .ok (.aload_n 0, 1) := by decide +kernel
theorem dX4_openByDegreesTo_26 : decode cX4_openByDegreesTo 26 = .ok (.getfield 10, 3) := by decide +kernel
theorem dX4_openByDegreesTo_29 : decode cX4_openByDegreesTo 29 = .ok (.iload_n 3, 1) := by decide +kernel
theorem dX4_openByDegreesTo_30 : decode cX4_openByDegreesTo 30 = .ok (.invokevirtual 63, 3) := by decide +kernel
theorem dX4_openByDegreesTo_33 : decode cX4_openByDegreesTo 33 = .ok (.checkcast 26, 3) := by decide +kernel
theorem dX4_openByDegreesTo_36 : decode cX4_openByDegreesTo 36 = .ok (.invokevirtual 194, 3) := by decide +kernel
theorem dX4_openByDegreesTo_39 : decode cX4_openByDegreesTo 39 = .ok (.iinc 3 1, 3) := by decide +kernel
theorem dX4_openByDegreesTo_42 : decode cX4_openByDegreesTo 42 = .ok (.goto (-28), 3) := by decide +kernel
theorem dX4_openByDegreesTo_45 : decode cX4_openByDegreesTo 45 = .ok (.iinc 2 1, 3) := by decide +kernel
theorem dX4_openByDegreesTo_48 : decode cX4_openByDegreesTo 48 = .ok (.goto (-41), 3) := by decide +kernel
theorem dX4_openByDegreesTo_51 : decode cX4_openByDegreesTo 51 = .ok (.return_, 1) := by decide +kernel
theorem dX4_tellAll_0 : decode cX4_tellAll 0 = .ok (.aload_n 0, 1) := by decide +kernel
theorem dX4_tellAll_1 : decode cX4_tellAll 1 = .ok (.getfield 22, 3) := by decide +kernel
theorem dX4_tellAll_4 : decode cX4_tellAll 4 = .ok (.iconst 0, 1) := by decide +kernel
theorem dX4_tellAll_5 : decode cX4_tellAll 5 = .ok (.invokevirtual 197, 3) := by decide +kernel
theorem dX4_tellAll_8 : decode cX4_tellAll 8 = .ok (.aload_n 1, 1) := by decide +kernel
theorem dX4_tellAll_9 : decode cX4_tellAll 9 = .ok (.astore_n 2, 1) := by decide +kernel
theorem dX4_tellAll_10 : decode cX4_tellAll 10 = .ok (.aload_n 2, 1) := by decide +kernel
theorem dX4_tellAll_11 : decode cX4_tellAll 11 = .ok (.ifnull 19, 3) := by decide +kernel
theorem dX4_tellAll_14 : decode cX4_tellAll 14 = .ok (.aload_n 2, 1) := by decide +kernel
theorem dX4_tellAll_15 : decode cX4_tellAll 15 = .ok (.aload_n 0, 1) := by decide +kernel
theorem dX4_tellAll_16 : decode cX4_tellAll 16 = .ok (.getfield 22, 3) := by decide +kernel
theorem dX4_tellAll_19 : decode cX4_tellAll 19 = .ok (.invokevirtual 200, 3) := by decide +kernel
theorem dX4_tellAll_22 : decode cX4_tellAll 22 = .ok (.aload_n 2, 1) := by decide +kernel
theorem dX4_tellAll_23 : decode cX4_tellAll 23 = .ok (.getfield 204, 3) := by decide +kernel
theorem dX4_tellAll_26 : decode cX4_tellAll 26 = .ok (.astore_n 2, 1) := by decide +kernel
theorem dX4_tellAll_27 : decode cX4_tellAll 27 = .ok (.goto (-17), 3) := by decide +kernel
theorem dX4_tellAll_30 : decode cX4_tellAll 30 = .ok (.return_, 1) := by decide +kernel
theorem dX4_firstThatMeetsAnother_0 : decode cX4_firstThatMeetsAnother 0 = .ok (.iconst 0, 1) := by decide +kernel
theorem dX4_firstThatMeetsAnother_1 : decode cX4_firstThatMeetsAnother 1 = .ok (.istore_n 1, 1) := by decide +kernel
theorem dX4_firstThatMeetsAnother_2 : decode cX4_firstThatMeetsAnother 2 = .ok (.iload_n 1, 1) := by decide +kernel
theorem dX4_firstThatMeetsAnother_3 : decode cX4_firstThatMeetsAnother 3 = .ok (.aload_n 0, 1) := by decide +kernel
theorem dX4_firstThatMeetsAnother_4 : decode cX4_firstThatMeetsAnother 4 = .ok (.getfield 16, 3) := by decide +kernel
theorem dX4_firstThatMeetsAnother_7 : decode cX4_firstThatMeetsAnother 7 = .ok (.invokevirtual 50, 3) := by decide +kernel
theorem dX4_firstThatMeetsAnother_10 : decode cX4_firstThatMeetsAnother 10 = .ok (.if_icmp .ge 60, 3) := by decide +kernel
theorem dX4_firstThatMeetsAnother_13 : decode cX4_firstThatMeetsAnother 13 = .ok (.iload_n 1, 1) := by decide +kernel
theorem dX4_firstThatMeetsAnother_14 : decode cX4_firstThatMeetsAnother 14 = .ok (.iconst 1, 1) := by decide +kernel
theorem dX4_firstThatMeetsAnother_15 : decode cX4_firstThatMeetsAnother 15 = .ok (.iadd, 1) := by decide +kernel
theorem dX4_firstThatMeetsAnother_16 : decode cX4_firstThatMeetsAnother 16 = .ok (.istore_n 2, 1) := by decide +kernel
theorem dX4_firstThatMeetsAnother_17 : decode cX4_firstThatMeetsAnother 17 = .ok (.iload_n 2, 1) := by decide +kernel
theorem dX4_firstThatMeetsAnother_18 : decode cX4_firstThatMeetsAnother 18 = .ok (.aload_n 0, 1) := by decide +kernel
theorem dX4_firstThatMeetsAnother_19 : decode cX4_firstThatMeetsAnother 19 = .ok (.getfield 16, 3) := by decide +kernel
theorem dX4_firstThatMeetsAnother_22 : decode cX4_firstThatMeetsAnother 22 = .ok (.invokevirtual 50, 3) := by decide +kernel
theorem dX4_firstThatMeetsAnother_25 : decode cX4_firstThatMeetsAnother 25 = .ok (.if_icmp .ge 39, 3) := by decide +kernel
theorem dX4_firstThatMeetsAnother_28 : decode cX4_firstThatMeetsAnother 28 = .ok (.aload_n 0, 1) := by decide +kernel
theorem dX4_firstThatMeetsAnother_29 : decode cX4_firstThatMeetsAnother 29 = .ok (.getfield 16, 3) := by decide +kernel
theorem dX4_firstThatMeetsAnother_32 : decode cX4_firstThatMeetsAnother 32 = .ok (.iload_n 1, 1) := by decide +kernel
theorem dX4_firstThatMeetsAnother_33 : decode cX4_firstThatMeetsAnother 33 = .ok (.invokevirtual 63, 3) := by decide +kernel
theorem dX4_firstThatMeetsAnother_36 : decode cX4_firstThatMeetsAnother 36 = .ok (.checkcast 74, 3) := by decide +kernel
theorem dX4_firstThatMeetsAnother_39 : decode cX4_firstThatMeetsAnother 39 = .ok (.aload_n 0, 1) := by decide +kernel
theorem dX4_firstThatMeetsAnother_40 : decode cX4_firstThatMeetsAnother 40 = .ok (.getfield 16, 3) := by decide +kernel
theorem dX4_firstThatMeetsAnother_43 : decode cX4_firstThatMeetsAnother 43 = .ok (.iload_n 2, 1) := by decide +kernel
theorem dX4_firstThatMeetsAnother_44 : decode cX4_firstThatMeetsAnother 44 = .ok (.invokevirtual 63, 3) := by decide +kernel
theorem dX4_firstThatMeetsAnother_47 : decode cX4_firstThatMeetsAnother 47 = .ok (.checkcast 74, 3) := by decide +kernel
theorem dX4_firstThatMeetsAnother_50 : decode cX4_firstThatMeetsAnother 50 = .ok (.invokevirtual 107, 3) := by decide +kernel
theorem dX4_firstThatMeetsAnother_53 : decode cX4_firstThatMeetsAnother 53 = .ok (.ifCond .eq 5, 3) := by decide +kernel
theorem dX4_firstThatMeetsAnother_56 : decode cX4_firstThatMeetsAnother 56 = .ok (.iload_n 1, 1) := by decide +kernel
theorem dX4_firstThatMeetsAnother_57 : decode cX4_firstThatMeetsAnother 57 = .ok (.ireturn, 1) := by decide +kernel
theorem dX4_firstThatMeetsAnother_58 : decode cX4_firstThatMeetsAnother 58 = .ok (.iinc 2 1, 3) := by decide +kernel
theorem dX4_firstThatMeetsAnother_61 : decode cX4_firstThatMeetsAnother 61 = .ok (.goto (-44), 3) := by decide +kernel
theorem dX4_firstThatMeetsAnother_64 : decode cX4_firstThatMeetsAnother 64 = .ok (.iinc 1 1, 3) := by decide +kernel
theorem dX4_firstThatMeetsAnother_67 : decode cX4_firstThatMeetsAnother 67 = .ok (.goto (-65), 3) := by decide +kernel
theorem dX4_firstThatMeetsAnother_70 : decode cX4_firstThatMeetsAnother 70 = .ok (.iconst (-1), 1) := by decide +kernel
theorem dX4_firstThatMeetsAnother_71 : decode cX4_firstThatMeetsAnother 71 = .ok (.ireturn, 1) := by decide +kernel
theorem dX4_isStartCovered_0 : decode cX4_isStartCovered 0 = .ok (.aload_n 0, 1) := by decide +kernel
theorem dX4_isStartCovered_1 : decode cX4_isStartCovered 1 = .ok (.sipush 180, 3) := by decide +kernel
theorem dX4_isStartCovered_4 : decode cX4_isStartCovered 4 = .ok (.invokevirtual 82, 3) := by decide +kernel
theorem dX4_isStartCovered_7 : decode cX4_isStartCovered 7 = .ok (.iconst 0, 1) := by decide +kernel
theorem dX4_isStartCovered_8 : decode cX4_isStartCovered 8 = .ok (.istore_n 2, 1) := by decide +kernel
theorem dX4_isStartCovered_9 : decode cX4_isStartCovered 9 = .ok (.iload_n 2, 1) := by decide +kernel
theorem dX4_isStartCovered_10 : decode cX4_isStartCovered 10 = .ok (.aload_n 0, 1) := by decide +kernel
theorem dX4_isStartCovered_11 : decode cX4_isStartCovered 11 = .ok (.getfield 16, 3) := by decide +kernel
theorem dX4_isStartCovered_14 : decode cX4_isStartCovered 14 = .ok (.invokevirtual 50, 3) := by decide +kernel
theorem dX4_isStartCovered_17 : decode cX4_isStartCovered 17 = .ok (.if_icmp .ge 46, 3) := by decide +kernel
theorem dX4_isStartCovered_20 : decode cX4_isStartCovered 20 = .ok (.aload_n 0, 1) := by decide +kernel
theorem dX4_isStartCovered_21 : decode cX4_isStartCovered 21 = .ok (.getfield 16, 3) := by decide +kernel
theorem dX4_isStartCovered_24 : decode cX4_isStartCovered 24 = .ok (.iload_n 2, 1) := by decide +kernel
theorem dX4_isStartCovered_25 : decode cX4_isStartCovered 25 = .ok (.invokevirtual 63, 3) := by decide +kernel
theorem dX4_isStartCovered_28 : decode cX4_isStartCovered 28 = .ok (.checkcast 74, 3) := by decide +kernel
theorem dX4_isStartCovered_31 : decode cX4_isStartCovered 31 = .ok (.invokevirtual 129, 3) := by decide +kernel
theorem dX4_isStartCovered_34 : decode cX4_isStartCovered 34 = .ok (.ifCond .eq 23, 3) := by decide +kernel
theorem dX4_isStartCovered_37 : decode cX4_isStartCovered 37 = .ok (.aload_n 0, 1) := by decide +kernel
theorem dX4_isStartCovered_38 : decode cX4_isStartCovered 38 = .ok (.getfield 16, 3) := by decide +kernel
theorem dX4_isStartCovered_41 : decode cX4_isStartCovered 41 = .ok (.iload_n 2, 1) := by decide +kernel
theorem dX4_isStartCovered_42 : decode cX4_isStartCovered 42 = .ok (.invokevirtual 63, 3) := by decide +kernel
theorem dX4_isStartCovered_45 : decode cX4_isStartCovered 45 = .ok (.checkcast 74, 3) := by decide +kernel
theorem dX4_isStartCovered_48 : decode cX4_isStartCovered 48 = .ok (.aload_n 1, 1) := by decide +kernel
theorem dX4_isStartCovered_49 : decode cX4_isStartCovered 49 = .ok (.invokevirtual 208, 3) := by decide +kernel
theorem dX4_isStartCovered_52 : decode cX4_isStartCovered 52 = .ok (.ifCond .eq 5, 3) := by decide +kernel
theorem dX4_isStartCovered_55 : decode cX4_isStartCovered 55 = .ok (.iconst 1, 1) := by decide +kernel
theorem dX4_isStartCovered_56 : decode cX4_isStartCovered 56 = .ok (.ireturn, 1) := by decide +kernel
theorem dX4_isStartCovered_57 : decode cX4_isStartCovered 57 = .ok (.iinc 2 1, 3) := by decide +kernel
theorem dX4_isStartCovered_60 : decode cX4_isStartCovered 60 = .ok (.goto (-51), 3) := by decide +kernel
theorem dX4_isStartCovered_63 : decode cX4_isStartCovered 63 = .ok (.iconst 0, 1) := by decide +kernel
theorem dX4_isStartCovered_64 : decode cX4_isStartCovered 64 = .ok (.ireturn, 1) := by decide +kernel
theorem dX4_hasHold_0 : decode cX4_hasHold 0 = .ok (.aload_n 1, 1) := by decide +kernel
theorem dX4_hasHold_1 : decode cX4_hasHold 1 = .ok (.getfield 211, 3) := by decide +kernel
theorem dX4_hasHold_4 : decode cX4_hasHold 4 = .ok (.getfield 204, 3) := by decide +kernel
theorem dX4_hasHold_7 : decode cX4_hasHold 7 = .ok (.ifnonnull 5, 3) := by decide +kernel
theorem dX4_hasHold_10 : decode cX4_hasHold 10 = .ok (.iconst 1, 1) := by decide +kernel
theorem dX4_hasHold_11 : decode cX4_hasHold 11 = .ok (.ireturn, 1) := by decide +kernel
theorem dX4_hasHold_12 : decode cX4_hasHold 12 = .ok (.iconst 0, 1) := by decide +kernel
theorem dX4_hasHold_13 : decode cX4_hasHold 13 = .ok (.istore_n 2, 1) := by decide +kernel
theorem dX4_hasHold_14 : decode cX4_hasHold 14 = .ok (.iload_n 2, 1) := by decide +kernel
theorem dX4_hasHold_15 : decode cX4_hasHold 15 = .ok (.aload_n 0, 1) := by decide +kernel
theorem dX4_hasHold_16 : decode cX4_hasHold 16 = .ok (.getfield 16, 3) := by decide +kernel
theorem dX4_hasHold_19 : decode cX4_hasHold 19 = .ok (.invokevirtual 50, 3) := by decide +kernel
theorem dX4_hasHold_22 : decode cX4_hasHold 22 = .ok (.if_icmp .ge 52, 3) := by decide +kernel
theorem dX4_hasHold_25 : decode cX4_hasHold 25 = .ok (.aload_n 0, 1) := by decide +kernel
theorem dX4_hasHold_26 : decode cX4_hasHold 26 = .ok (.getfield 16, 3) := by decide +kernel
theorem dX4_hasHold_29 : decode cX4_hasHold 29 = .ok (.iload_n 2, 1) := by decide +kernel
theorem dX4_hasHold_30 : decode cX4_hasHold 30 = .ok (.invokevirtual 63, 3) := by decide +kernel
theorem dX4_hasHold_33 : decode cX4_hasHold 33 = .ok (.checkcast 74, 3) := by decide +kernel
theorem dX4_hasHold_36 : decode cX4_hasHold 36 = .ok (.invokevirtual 129, 3) := by decide +kernel
theorem dX4_hasHold_39 : decode cX4_hasHold 39 = .ok (.ifCond .eq 29, 3) := by decide +kernel
theorem dX4_hasHold_42 : decode cX4_hasHold 42 = .ok (.aload_n 0, 1) := by decide +kernel
theorem dX4_hasHold_43 : decode cX4_hasHold 43 = .ok (.getfield 16, 3) := by decide +kernel
theorem dX4_hasHold_46 : decode cX4_hasHold 46 = .ok (.iload_n 2, 1) := by decide +kernel
theorem dX4_hasHold_47 : decode cX4_hasHold 47 = .ok (.invokevirtual 63, 3) := by decide +kernel
theorem dX4_hasHold_50 : decode cX4_hasHold 50 = .ok (.checkcast 74, 3) := by decide +kernel
theorem dX4_hasHold_53 : decode cX4_hasHold 53 = .ok (.getfield 211, 3) := by decide +kernel
theorem dX4_hasHold_56 : decode cX4_hasHold 56 = .ok (.aload_n 1, 1) := by decide +kernel
theorem dX4_hasHold_57 : decode cX4_hasHold 57 = .ok (.getfield 211, 3) := by decide +kernel
theorem dX4_hasHold_60 : decode cX4_hasHold 60 = .ok (.getfield 204, 3) := by decide +kernel
theorem dX4_hasHold_63 : decode cX4_hasHold 63 = .ok (.if_acmp .ne 5, 3) := by decide +kernel
theorem dX4_hasHold_66 : decode cX4_hasHold 66 = .ok (.iconst 1, 1) := by decide +kernel
theorem dX4_hasHold_67 : decode cX4_hasHold 67 = .ok (.ireturn, 1) := by decide +kernel
theorem dX4_hasHold_68 : decode cX4_hasHold 68 = .ok (.iinc 2 1, 3) := by decide +kernel
theorem dX4_hasHold_71 : decode cX4_hasHold 71 = .ok (.goto (-57), 3) := by decide +kernel
theorem dX4_hasHold_74 : decode cX4_hasHold 74 = .ok (.iconst 0, 1) := by decide +kernel
theorem dX4_hasHold_75 : decode cX4_hasHold 75 = .ok (.ireturn, 1) := by decide +kernel
theorem dX4_partGluedAt_0 : decode cX4_partGluedAt 0 = .ok (.iconst 0, 1) := by decide +kernel
theorem dX4_partGluedAt_1 : decode cX4_partGluedAt 1 = .ok (.istore_n 2, 1) := by decide +kernel
theorem dX4_partGluedAt_2 : decode cX4_partGluedAt 2 = .ok (.iload_n 2, 1) := by decide +kernel
theorem dX4_partGluedAt_3 : decode cX4_partGluedAt 3 = .ok (.aload_n 0, 1) := by decide +kernel
theorem dX4_partGluedAt_4 : decode cX4_partGluedAt 4 = .ok (.getfield 16, 3) := by decide +kernel
theorem dX4_partGluedAt_7 : decode cX4_partGluedAt 7 = .ok (.invokevirtual 50, 3) := by decide +kernel
theorem dX4_partGluedAt_10 : decode cX4_partGluedAt 10 = .ok (.if_icmp .ge 29, 3) := by decide +kernel
theorem dX4_partGluedAt_13 : decode cX4_partGluedAt 13 = .ok (.aload_n 0, 1) := by decide +kernel
theorem dX4_partGluedAt_14 : decode cX4_partGluedAt 14 = .ok (.getfield 16, 3) := by decide +kernel
theorem dX4_partGluedAt_17 : decode cX4_partGluedAt 17 = .ok (.iload_n 2, 1) := by decide +kernel
theorem dX4_partGluedAt_18 : decode cX4_partGluedAt 18 = .ok (.invokevirtual 63, 3) := by decide +kernel
theorem dX4_partGluedAt_21 : decode cX4_partGluedAt 21 = .ok (.checkcast 74, 3) := by decide +kernel
theorem dX4_partGluedAt_24 : decode cX4_partGluedAt 24 = .ok (.getfield 145, 3) := by decide +kernel
theorem dX4_partGluedAt_27 : decode cX4_partGluedAt 27 = .ok (.iload_n 1, 1) := by decide +kernel
theorem dX4_partGluedAt_28 : decode cX4_partGluedAt 28 = .ok (.if_icmp .ne 5, 3) := by decide +kernel
theorem dX4_partGluedAt_31 : decode cX4_partGluedAt 31 = .ok (.iload_n 2, 1) := by decide +kernel
theorem dX4_partGluedAt_32 : decode cX4_partGluedAt 32 = .ok (.ireturn, 1) := by decide +kernel
theorem dX4_partGluedAt_33 : decode cX4_partGluedAt 33 = .ok (.iinc 2 1, 3) := by decide +kernel
theorem dX4_partGluedAt_36 : decode cX4_partGluedAt 36 = .ok (.goto (-34), 3) := by decide +kernel
theorem dX4_partGluedAt_39 : decode cX4_partGluedAt 39 = .ok (.iconst (-1), 1) := by decide +kernel
theorem dX4_partGluedAt_40 : decode cX4_partGluedAt 40 = .ok (.ireturn, 1) := by decide +kernel
theorem dX4_unglueFrom_0 : decode cX4_unglueFrom 0 = .ok (.iconst 0, 1) := by decide +kernel
theorem dX4_unglueFrom_1 : decode cX4_unglueFrom 1 = .ok (.istore_n 2, 1) := by decide +kernel
theorem dX4_unglueFrom_2 : decode cX4_unglueFrom 2 = .ok (.iload_n 2, 1) := by decide +kernel
theorem dX4_unglueFrom_3 : decode cX4_unglueFrom 3 = .ok (.aload_n 0, 1) := by decide +kernel
theorem dX4_unglueFrom_4 : decode cX4_unglueFrom 4 = .ok (.getfield 16, 3) := by decide +kernel
theorem dX4_unglueFrom_7 : decode cX4_unglueFrom 7 = .ok (.invokevirtual 50, 3) := by decide +kernel
theorem dX4_unglueFrom_10 : decode cX4_unglueFrom 10 = .ok (.if_icmp .ge 42, 3) := by decide +kernel
theorem dX4_unglueFrom_13 : decode cX4_unglueFrom 13 = .ok (.aload_n 0, 1) := by decide +kernel
theorem dX4_unglueFrom_14 : decode cX4_unglueFrom 14 = .ok (.getfield 16, 3) := by decide +kernel
theorem dX4_unglueFrom_17 : decode cX4_unglueFrom 17 = .ok (.iload_n 2, 1) := by decide +kernel
theorem dX4_unglueFrom_18 : decode cX4_unglueFrom 18 = .ok (.invokevirtual 63, 3) := by decide +kernel
theorem dX4_unglueFrom_21 : decode cX4_unglueFrom 21 = .ok (.checkcast 74, 3) := by decide +kernel
theorem dX4_unglueFrom_24 : decode cX4_unglueFrom 24 = .ok (.getfield 145, 3) := by decide +kernel
theorem dX4_unglueFrom_27 : decode cX4_unglueFrom 27 = .ok (.iload_n 1, 1) := by decide +kernel
theorem dX4_unglueFrom_28 : decode cX4_unglueFrom 28 = .ok (.if_icmp .lt 18, 3) := by decide +kernel
theorem dX4_unglueFrom_31 : decode cX4_unglueFrom 31 = .ok (.aload_n 0, 1) := by decide +kernel
theorem dX4_unglueFrom_32 : decode cX4_unglueFrom 32 = .ok (.getfield 16, 3) := by decide +kernel
theorem dX4_unglueFrom_35 : decode cX4_unglueFrom 35 = .ok (.iload_n 2, 1) := by decide +kernel
theorem dX4_unglueFrom_36 : decode cX4_unglueFrom 36 = .ok (.invokevirtual 63, 3) := by decide +kernel
theorem dX4_unglueFrom_39 : decode cX4_unglueFrom 39 = .ok (.checkcast 74, 3) := by decide +kernel
theorem dX4_unglueFrom_42 : decode cX4_unglueFrom 42 = .ok (.iconst (-1), 1) := by decide +kernel
theorem dX4_unglueFrom_43 : decode cX4_unglueFrom 43 = .ok (.putfield 145, 3) := by decide +kernel
theorem dX4_unglueFrom_46 : decode cX4_unglueFrom 46 = .ok (.iinc 2 1, 3) := by decide +kernel
theorem dX4_unglueFrom_49 : decode cX4_unglueFrom 49 = .ok (.goto (-47), 3) := by decide +kernel
theorem dX4_unglueFrom_52 : decode cX4_unglueFrom 52 = .ok (.aload_n 0, 1) := by decide +kernel
theorem dX4_unglueFrom_53 : decode cX4_unglueFrom 53 = .ok (.getfield 142, 3) := by decide +kernel
theorem dX4_unglueFrom_56 : decode cX4_unglueFrom 56 = .ok (.iload_n 1, 1) := by decide +kernel
theorem dX4_unglueFrom_57 : decode cX4_unglueFrom 57 = .ok (.isub, 1) := by decide +kernel
theorem dX4_unglueFrom_58 : decode cX4_unglueFrom 58 = .ok (.istore_n 2, 1) := by decide +kernel
theorem dX4_unglueFrom_59 : decode cX4_unglueFrom 59 = .ok (.aload_n 0, 1) := by decide +kernel
theorem dX4_unglueFrom_60 : decode cX4_unglueFrom 60 = .ok (.iload_n 1, 1) := by decide +kernel
theorem dX4_unglueFrom_61 : decode cX4_unglueFrom 61 = .ok (.putfield 142, 3) := by decide +kernel
theorem dX4_unglueFrom_64 : decode cX4_unglueFrom 64 = .ok (.iload_n 2, 1) := by decide +kernel
theorem dX4_unglueFrom_65 : decode cX4_unglueFrom 65 = .ok (.ireturn, 1) := by decide +kernel
theorem dX4_layAllParts_0 : decode cX4_layAllParts 0 = .ok (.aload_n 0, 1) := by decide +kernel
theorem dX4_layAllParts_1 : decode cX4_layAllParts 1 = .ok (.iconst 0, 1) := by decide +kernel
theorem dX4_layAllParts_2 : decode cX4_layAllParts 2 = .ok (.putfield 117, 3) := by decide +kernel
theorem dX4_layAllParts_5 : decode cX4_layAllParts 5 = .ok (.iconst 0, 1) := by decide +kernel
theorem dX4_layAllParts_6 : decode cX4_layAllParts 6 = .ok (.istore_n 1, 1) := by decide +kernel
theorem dX4_layAllParts_7 : decode cX4_layAllParts 7 = .ok (.iload_n 1, 1) := by decide +kernel
theorem dX4_layAllParts_8 : decode cX4_layAllParts 8 = .ok (.aload_n 0, 1) := by decide +kernel
theorem dX4_layAllParts_9 : decode cX4_layAllParts 9 = .ok (.getfield 16, 3) := by decide +kernel
theorem dX4_layAllParts_12 : decode cX4_layAllParts 12 = .ok (.invokevirtual 50, 3) := by decide +kernel
theorem dX4_layAllParts_15 : decode cX4_layAllParts 15 = .ok (.if_icmp .ge 24, 3) := by decide +kernel
theorem dX4_layAllParts_18 : decode cX4_layAllParts 18 = .ok (.aload_n 0, 1) := by decide +kernel
theorem dX4_layAllParts_19 : decode cX4_layAllParts 19 = .ok (.getfield 16, 3) := by decide +kernel
theorem dX4_layAllParts_22 : decode cX4_layAllParts 22 = .ok (.iload_n 1, 1) := by decide +kernel
theorem dX4_layAllParts_23 : decode cX4_layAllParts 23 = .ok (.invokevirtual 63, 3) := by decide +kernel
theorem dX4_layAllParts_26 : decode cX4_layAllParts 26 = .ok (.checkcast 74, 3) := by decide +kernel
theorem dX4_layAllParts_29 : decode cX4_layAllParts 29 = .ok (.iconst 0, 1) := by decide +kernel
theorem dX4_layAllParts_30 : decode cX4_layAllParts 30 = .ok (.putfield 214, 3) := by decide +kernel
theorem dX4_layAllParts_33 : decode cX4_layAllParts 33 = .ok (.iinc 1 1, 3) := by decide +kernel
theorem dX4_layAllParts_36 : decode cX4_layAllParts 36 = .ok (.goto (-29), 3) := by decide +kernel
theorem dX4_layAllParts_39 : decode cX4_layAllParts 39 = .ok (.iconst 0, 1) := by decide +kernel
theorem dX4_layAllParts_40 : decode cX4_layAllParts 40 = .ok (.istore_n 1, 1) := by decide +kernel
theorem dX4_layAllParts_41 : decode cX4_layAllParts 41 = .ok (.iload_n 1, 1) := by decide +kernel
theorem dX4_layAllParts_42 : decode cX4_layAllParts 42 = .ok (.aload_n 0, 1) := by decide +kernel
theorem dX4_layAllParts_43 : decode cX4_layAllParts 43 = .ok (.getfield 16, 3) := by decide +kernel
theorem dX4_layAllParts_46 : decode cX4_layAllParts 46 = .ok (.invokevirtual 50, 3) := by decide +kernel
theorem dX4_layAllParts_49 : decode cX4_layAllParts 49 = .ok (.if_icmp .ge 24, 3) := by decide +kernel
theorem dX4_layAllParts_52 : decode cX4_layAllParts 52 = .ok (.aload_n 0, 1) := by decide +kernel
theorem dX4_layAllParts_53 : decode cX4_layAllParts 53 = .ok (.aload_n 0, 1) := by decide +kernel
theorem dX4_layAllParts_54 : decode cX4_layAllParts 54 = .ok (.getfield 16, 3) := by decide +kernel
theorem dX4_layAllParts_57 : decode cX4_layAllParts 57 = .ok (.iload_n 1, 1) := by decide +kernel
theorem dX4_layAllParts_58 : decode cX4_layAllParts 58 = .ok (.invokevirtual 63, 3) := by decide +kernel
theorem dX4_layAllParts_61 : decode cX4_layAllParts 61 = .ok (.checkcast 74, 3) := by decide +kernel
theorem dX4_layAllParts_64 : decode cX4_layAllParts 64 = .ok (.invokevirtual 217, 3) := by decide +kernel
theorem dX4_layAllParts_67 : decode cX4_layAllParts 67 = .ok (.iinc 1 1, 3) := by decide +kernel
theorem dX4_layAllParts_70 : decode cX4_layAllParts 70 = .ok (.goto (-29), 3) := by decide +kernel
theorem dX4_layAllParts_73 : decode cX4_layAllParts 73 = .ok (.return_, 1) := by decide +kernel
theorem dX4_lay_0 : decode cX4_lay 0 = .ok (.aload_n 0, 1) := by decide +kernel
theorem dX4_lay_1 : decode cX4_lay 1 = .ok (.aload_n 1, 1) := by decide +kernel
theorem dX4_lay_2 : decode cX4_lay 2 = .ok (.invokevirtual 221, 3) := by decide +kernel
theorem dX4_lay_5 : decode cX4_lay 5 = .ok (.astore_n 2, 1) := by decide +kernel
theorem dX4_lay_6 : decode cX4_lay 6 = .ok (.aload_n 2, 1) := by decide +kernel
theorem dX4_lay_7 : decode cX4_lay 7 = .ok (.ifnonnull 10, 3) := by decide +kernel
theorem dX4_lay_10 : decode cX4_lay 10 = .ok (.aload_n 0, 1) := by decide +kernel
theorem dX4_lay_11 : decode cX4_lay 11 = .ok (.aload_n 1, 1) := by decide +kernel
theorem dX4_lay_12 : decode cX4_lay 12 = .ok (.invokevirtual 225, 3) := by decide +kernel
theorem dX4_lay_15 : decode cX4_lay 15 = .ok (.aload_n 1, 1) := by decide +kernel
theorem dX4_lay_16 : decode cX4_lay 16 = .ok (.astore_n 2, 1) := by decide +kernel
theorem dX4_lay_17 : decode cX4_lay 17 = .ok (.aload_n 1, 1) := by decide +kernel
theorem dX4_lay_18 : decode cX4_lay 18 = .ok (.aload_n 2, 1) := by decide +kernel
theorem dX4_lay_19 : decode cX4_lay 19 = .ok (.getfield 120, 3) := by decide +kernel
theorem dX4_lay_22 : decode cX4_lay 22 = .ok (.putfield 120, 3) := by decide +kernel
theorem dX4_lay_25 : decode cX4_lay 25 = .ok (.aload_n 1, 1) := by decide +kernel
theorem dX4_lay_26 : decode cX4_lay 26 = .ok (.aload_n 2, 1) := by decide +kernel
theorem dX4_lay_27 : decode cX4_lay 27 = .ok (.getfield 228, 3) := by decide +kernel
theorem dX4_lay_30 : decode cX4_lay 30 = .ok (.putfield 123, 3) := by decide +kernel
theorem dX4_lay_33 : decode cX4_lay 33 = .ok (.aload_n 1, 1) := by decide +kernel
theorem dX4_lay_34 : decode cX4_lay 34 = .ok (.aload_n 2, 1) := by decide +kernel
theorem dX4_lay_35 : decode cX4_lay 35 = .ok (.getfield 126, 3) := by decide +kernel
theorem dX4_lay_38 : decode cX4_lay 38 = .ok (.putfield 126, 3) := by decide +kernel
theorem dX4_lay_41 : decode cX4_lay 41 = .ok (.aload_n 2, 1) := by decide +kernel
theorem dX4_lay_42 : decode cX4_lay 42 = .ok (.dup, 1) := by decide +kernel
theorem dX4_lay_43 : decode cX4_lay 43 = .ok (.getfield 228, 3) := by decide +kernel
theorem dX4_lay_46 : decode cX4_lay 46 = .ok (.aload_n 1, 1) := by decide +kernel
theorem dX4_lay_47 : decode cX4_lay 47 = .ok (.invokevirtual 231, 3) := by decide +kernel
theorem dX4_lay_50 : decode cX4_lay 50 = .ok (.iadd, 1) := by decide +kernel
theorem dX4_lay_51 : decode cX4_lay 51 = .ok (.putfield 228, 3) := by decide +kernel
theorem dX4_lay_54 : decode cX4_lay 54 = .ok (.return_, 1) := by decide +kernel
theorem dX4_firstOfShelfFor_0 : decode cX4_firstOfShelfFor 0 = .ok (.iconst 0, 1) := by decide +kernel
theorem dX4_firstOfShelfFor_1 : decode cX4_firstOfShelfFor 1 = .ok (.istore_n 2, 1) := by decide +kernel
theorem dX4_firstOfShelfFor_2 : decode cX4_firstOfShelfFor 2 = .ok (.iload_n 2, 1) := by decide +kernel
theorem dX4_firstOfShelfFor_3 : decode cX4_firstOfShelfFor 3 = .ok (.aload_n 0, 1) := by decide +kernel
theorem dX4_firstOfShelfFor_4 : decode cX4_firstOfShelfFor 4 = .ok (.getfield 117, 3) := by decide +kernel
theorem dX4_firstOfShelfFor_7 : decode cX4_firstOfShelfFor 7 = .ok (.if_icmp .ge 80, 3) := by decide +kernel
theorem dX4_firstOfShelfFor_10 : decode cX4_firstOfShelfFor 10 = .ok (.iconst 0, 1) := by decide +kernel
theorem dX4_firstOfShelfFor_11 : decode cX4_firstOfShelfFor 11 = .ok (.istore_n 3, 1) := by decide +kernel
theorem dX4_firstOfShelfFor_12 : decode cX4_firstOfShelfFor 12 = .ok (.iload_n 3, 1) := by decide +kernel
theorem dX4_firstOfShelfFor_13 : decode cX4_firstOfShelfFor 13 = .ok (.aload_n 0, 1) := by decide +kernel
theorem dX4_firstOfShelfFor_14 : decode cX4_firstOfShelfFor 14 = .ok (.getfield 16, 3) := by decide +kernel
theorem dX4_firstOfShelfFor_17 : decode cX4_firstOfShelfFor 17 = .ok (.invokevirtual 50, 3) := by decide +kernel
theorem dX4_firstOfShelfFor_20 : decode cX4_firstOfShelfFor 20 = .ok (.if_icmp .ge 61, 3) := by decide +kernel
theorem dX4_firstOfShelfFor_23 : decode cX4_firstOfShelfFor 23 = .ok (.aload_n 0, 1) := by decide +kernel
theorem dX4_firstOfShelfFor_24 : decode cX4_firstOfShelfFor 24 = .ok (.getfield 16, 3) := by decide +kernel
theorem dX4_firstOfShelfFor_27 : decode cX4_firstOfShelfFor 27 = .ok (.iload_n 3, 1) := by decide +kernel
theorem dX4_firstOfShelfFor_28 : decode cX4_firstOfShelfFor 28 = .ok (.invokevirtual 63, 3) := by decide +kernel
theorem dX4_firstOfShelfFor_31 : decode cX4_firstOfShelfFor 31 = .ok (.checkcast 74, 3) := by decide +kernel
theorem dX4_firstOfShelfFor_34 : decode cX4_firstOfShelfFor 34 = .ok (.astore 4, 2) := by decide +kernel
theorem dX4_firstOfShelfFor_36 : decode cX4_firstOfShelfFor 36 = .ok (.aload 4, 2) := by decide +kernel
theorem dX4_firstOfShelfFor_38 : decode cX4_firstOfShelfFor 38 = .ok (.getfield 120, 3) := by decide +kernel
theorem dX4_firstOfShelfFor_41 : decode cX4_firstOfShelfFor 41 = .ok (.iload_n 2, 1) := by decide +kernel
theorem dX4_firstOfShelfFor_42 : decode cX4_firstOfShelfFor 42 = .ok (.if_icmp .ne 33, 3) := by decide +kernel
theorem dX4_firstOfShelfFor_45 : decode cX4_firstOfShelfFor 45 = .ok (.aload 4, 2) := by decide +kernel
theorem dX4_firstOfShelfFor_47 : decode cX4_firstOfShelfFor 47 = .ok (.getfield 214, 3) := by decide +kernel
theorem dX4_firstOfShelfFor_50 : decode cX4_firstOfShelfFor 50 = .ok (.aload_n 1, 1) := by decide +kernel
theorem dX4_firstOfShelfFor_51 : decode cX4_firstOfShelfFor 51 = .ok (.invokevirtual 234, 3) := by decide +kernel
theorem dX4_firstOfShelfFor_54 : decode cX4_firstOfShelfFor 54 = .ok (.if_icmp .lt 21, 3) := by decide +kernel
theorem dX4_firstOfShelfFor_57 : decode cX4_firstOfShelfFor 57 = .ok (.bipush 40, 2) := by decide +kernel
theorem dX4_firstOfShelfFor_59 : decode cX4_firstOfShelfFor 59 = .ok (.aload 4, 2) := by decide +kernel
theorem dX4_firstOfShelfFor_61 : decode cX4_firstOfShelfFor 61 = .ok (.getfield 228, 3) := by decide +kernel
theorem dX4_firstOfShelfFor_64 : decode cX4_firstOfShelfFor 64 = .ok (.isub, 1) := by decide +kernel
theorem dX4_firstOfShelfFor_65 : decode cX4_firstOfShelfFor 65 = .ok (.aload_n 1, 1) := by decide +kernel
theorem dX4_firstOfShelfFor_66 : decode cX4_firstOfShelfFor 66 = .ok (.invokevirtual 231, 3) := by decide +kernel
theorem dX4_firstOfShelfFor_69 : decode cX4_firstOfShelfFor 69 = .ok (.if_icmp .lt 6, 3) := by decide +kernel
theorem dX4_firstOfShelfFor_72 : decode cX4_firstOfShelfFor 72 = .ok (.aload 4, 2) := by decide +kernel
theorem dX4_firstOfShelfFor_74 : decode cX4_firstOfShelfFor 74 = .ok (.areturn, 1) := by decide +kernel
theorem dX4_firstOfShelfFor_75 : decode cX4_firstOfShelfFor 75 = .ok (.iinc 3 1, 3) := by decide +kernel
theorem dX4_firstOfShelfFor_78 : decode cX4_firstOfShelfFor 78 = .ok (.goto (-66), 3) := by decide +kernel
theorem dX4_firstOfShelfFor_81 : decode cX4_firstOfShelfFor 81 = .ok (.iinc 2 1, 3) := by decide +kernel
theorem dX4_firstOfShelfFor_84 : decode cX4_firstOfShelfFor 84 = .ok (.goto (-82), 3) := by decide +kernel
theorem dX4_firstOfShelfFor_87 : decode cX4_firstOfShelfFor 87 = .ok (.aconst_null, 1) := by decide +kernel
theorem dX4_firstOfShelfFor_88 : decode cX4_firstOfShelfFor 88 = .ok (.areturn, 1) := by decide +kernel
theorem dX4_beginShelf_0 : decode cX4_beginShelf 0 = .ok (.aload_n 1, 1) := by decide +kernel
theorem dX4_beginShelf_1 : decode cX4_beginShelf 1 = .ok (.aload_n 0, 1) := by decide +kernel
theorem dX4_beginShelf_2 : decode cX4_beginShelf 2 = .ok (.aload_n 1, 1) := by decide +kernel
theorem dX4_beginShelf_3 : decode cX4_beginShelf 3 = .ok (.invokevirtual 234, 3) := by decide +kernel
theorem dX4_beginShelf_6 : decode cX4_beginShelf 6 = .ok (.invokevirtual 237, 3) := by decide +kernel
theorem dX4_beginShelf_9 : decode cX4_beginShelf 9 = .ok (.putfield 120, 3) := by decide +kernel
theorem dX4_beginShelf_12 : decode cX4_beginShelf 12 = .ok (.aload_n 1, 1) := by decide +kernel
theorem dX4_beginShelf_13 : decode cX4_beginShelf 13 = .ok (.aload_n 0, 1) := by decide +kernel
theorem dX4_beginShelf_14 : decode cX4_beginShelf 14 = .ok (.aload_n 1, 1) := by decide +kernel
theorem dX4_beginShelf_15 : decode cX4_beginShelf 15 = .ok (.getfield 120, 3) := by decide +kernel
theorem dX4_beginShelf_18 : decode cX4_beginShelf 18 = .ok (.invokevirtual 240, 3) := by decide +kernel
theorem dX4_beginShelf_21 : decode cX4_beginShelf 21 = .ok (.putfield 126, 3) := by decide +kernel
theorem dX4_beginShelf_24 : decode cX4_beginShelf 24 = .ok (.aload_n 1, 1) := by decide +kernel
theorem dX4_beginShelf_25 : decode cX4_beginShelf 25 = .ok (.aload_n 1, 1) := by decide +kernel
theorem dX4_beginShelf_26 : decode cX4_beginShelf 26 = .ok (.invokevirtual 234, 3) := by decide +kernel
theorem dX4_beginShelf_29 : decode cX4_beginShelf 29 = .ok (.putfield 214, 3) := by decide +kernel
theorem dX4_beginShelf_32 : decode cX4_beginShelf 32 = .ok (.aload_n 1, 1) := by decide +kernel
theorem dX4_beginShelf_33 : decode cX4_beginShelf 33 = .ok (.iconst 0, 1) := by decide +kernel
theorem dX4_beginShelf_34 : decode cX4_beginShelf 34 = .ok (.putfield 228, 3) := by decide +kernel
theorem dX4_beginShelf_37 : decode cX4_beginShelf 37 = .ok (.return_, 1) := by decide +kernel
theorem dX4_sheetForShelf_0 : decode cX4_sheetForShelf 0 = .ok (.iconst 0, 1) := by decide +kernel
theorem dX4_sheetForShelf_1 : decode cX4_sheetForShelf 1 = .ok (.istore_n 2, 1) := by decide +kernel
theorem dX4_sheetForShelf_2 : decode cX4_sheetForShelf 2 = .ok (.iload_n 2, 1) := by decide +kernel
theorem dX4_sheetForShelf_3 : decode cX4_sheetForShelf 3 = .ok (.aload_n 0, 1) := by decide +kernel
theorem dX4_sheetForShelf_4 : decode cX4_sheetForShelf 4 = .ok (.getfield 117, 3) := by decide +kernel
theorem dX4_sheetForShelf_7 : decode cX4_sheetForShelf 7 = .ok (.if_icmp .ge 23, 3) := by decide +kernel
theorem dX4_sheetForShelf_10 : decode cX4_sheetForShelf 10 = .ok (.bipush 30, 2) := by decide +kernel
theorem dX4_sheetForShelf_12 : decode cX4_sheetForShelf 12 = .ok (.aload_n 0, 1) := by decide +kernel
theorem dX4_sheetForShelf_13 : decode cX4_sheetForShelf 13 = .ok (.iload_n 2, 1) := by decide +kernel
theorem dX4_sheetForShelf_14 : decode cX4_sheetForShelf 14 = .ok (.invokevirtual 240, 3) := by decide +kernel
theorem dX4_sheetForShelf_17 : decode cX4_sheetForShelf 17 = .ok (.isub, 1) := by decide +kernel
theorem dX4_sheetForShelf_18 : decode cX4_sheetForShelf 18 = .ok (.iload_n 1, 1) := by decide +kernel
theorem dX4_sheetForShelf_19 : decode cX4_sheetForShelf 19 = .ok (.if_icmp .lt 5, 3) := by decide +kernel
theorem dX4_sheetForShelf_22 : decode cX4_sheetForShelf 22 = .ok (.iload_n 2, 1) := by decide +kernel
theorem dX4_sheetForShelf_23 : decode cX4_sheetForShelf 23 = .ok (.ireturn, 1) := by decide +kernel
theorem dX4_sheetForShelf_24 : decode cX4_sheetForShelf 24 = .ok (.iinc 2 1, 3) := by decide +kernel
theorem dX4_sheetForShelf_27 : decode cX4_sheetForShelf 27 = .ok (.goto (-25), 3) := by decide +kernel
theorem dX4_sheetForShelf_30 : decode cX4_sheetForShelf 30 = .ok (.aload_n 0, 1) := by decide +kernel
theorem dX4_sheetForShelf_31 : decode cX4_sheetForShelf 31 = .ok (.dup, 1) := by decide +kernel
theorem dX4_sheetForShelf_32 : decode cX4_sheetForShelf 32 = .ok (.getfield 117, 3) := by decide +kernel
theorem dX4_sheetForShelf_35 : decode cX4_sheetForShelf 35 = .ok (.iconst 1, 1) := by decide +kernel
theorem dX4_sheetForShelf_36 : decode cX4_sheetForShelf 36 = .ok (.iadd, 1) := by decide +kernel
theorem dX4_sheetForShelf_37 : decode cX4_sheetForShelf 37 = .ok (.putfield 117, 3) := by decide +kernel
theorem dX4_sheetForShelf_40 : decode cX4_sheetForShelf 40 = .ok (.aload_n 0, 1) := by decide +kernel
theorem dX4_sheetForShelf_41 : decode cX4_sheetForShelf 41 = .ok (.getfield 117, 3) := by decide +kernel
theorem dX4_sheetForShelf_44 : decode cX4_sheetForShelf 44 = .ok (.iconst 1, 1) := by decide +kernel
theorem dX4_sheetForShelf_45 : decode cX4_sheetForShelf 45 = .ok (.isub, 1) := by decide +kernel
theorem dX4_sheetForShelf_46 : decode cX4_sheetForShelf 46 = .ok (.ireturn, 1) := by decide +kernel
theorem dX4_filledHeight_0 : decode cX4_filledHeight 0 = .ok (.iconst 0, 1) := by decide +kernel
theorem dX4_filledHeight_1 : decode cX4_filledHeight 1 = .ok (.istore_n 2, 1) := by decide +kernel
theorem dX4_filledHeight_2 : decode cX4_filledHeight 2 = .ok (.iconst 0, 1) := by decide +kernel
theorem dX4_filledHeight_3 : decode cX4_filledHeight 3 = .ok (.istore_n 3, 1) := by decide +kernel
theorem dX4_filledHeight_4 : decode cX4_filledHeight 4 = .ok (.iload_n 3, 1) := by decide +kernel
theorem dX4_filledHeight_5 : decode cX4_filledHeight 5 = .ok (.aload_n 0, 1) := by decide +kernel
theorem dX4_filledHeight_6 : decode cX4_filledHeight 6 = .ok (.getfield 16, 3) := by decide +kernel
theorem dX4_filledHeight_9 : decode cX4_filledHeight 9 = .ok (.invokevirtual 50, 3) := by decide +kernel
theorem dX4_filledHeight_12 : decode cX4_filledHeight 12 = .ok (.if_icmp .ge 44, 3) := by decide +kernel
theorem dX4_filledHeight_15 : decode cX4_filledHeight 15 = .ok (.aload_n 0, 1) := by decide +kernel
theorem dX4_filledHeight_16 : decode cX4_filledHeight 16 = .ok (.getfield 16, 3) := by decide +kernel
theorem dX4_filledHeight_19 : decode cX4_filledHeight 19 = .ok (.iload_n 3, 1) := by decide +kernel
theorem dX4_filledHeight_20 : decode cX4_filledHeight 20 = .ok (.invokevirtual 63, 3) := by decide +kernel
theorem dX4_filledHeight_23 : decode cX4_filledHeight 23 = .ok (.checkcast 74, 3) := by decide +kernel
theorem dX4_filledHeight_26 : decode cX4_filledHeight 26 = .ok (.getfield 120, 3) := by decide +kernel
theorem dX4_filledHeight_29 : decode cX4_filledHeight 29 = .ok (.iload_n 1, 1) := by decide +kernel
theorem dX4_filledHeight_30 : decode cX4_filledHeight 30 = .ok (.if_icmp .ne 20, 3) := by decide +kernel
theorem dX4_filledHeight_33 : decode cX4_filledHeight 33 = .ok (.iload_n 2, 1) := by decide +kernel
theorem dX4_filledHeight_34 : decode cX4_filledHeight 34 = .ok (.aload_n 0, 1) := by decide +kernel
theorem dX4_filledHeight_35 : decode cX4_filledHeight 35 = .ok (.getfield 16, 3) := by decide +kernel
theorem dX4_filledHeight_38 : decode cX4_filledHeight 38 = .ok (.iload_n 3, 1) := by decide +kernel
theorem dX4_filledHeight_39 : decode cX4_filledHeight 39 = .ok (.invokevirtual 63, 3) := by decide +kernel
theorem dX4_filledHeight_42 : decode cX4_filledHeight 42 = .ok (.checkcast 74, 3) := by decide +kernel
theorem dX4_filledHeight_45 : decode cX4_filledHeight 45 = .ok (.getfield 214, 3) := by decide +kernel
theorem dX4_filledHeight_48 : decode cX4_filledHeight 48 = .ok (.iadd, 1) := by decide +kernel
theorem dX4_filledHeight_49 : decode cX4_filledHeight 49 = .ok (.istore_n 2, 1) := by decide +kernel
theorem dX4_filledHeight_50 : decode cX4_filledHeight 50 = .ok (.iinc 3 1, 3) := by decide +kernel
theorem dX4_filledHeight_53 : decode cX4_filledHeight 53 = .ok (.goto (-49), 3) := by decide +kernel
theorem dX4_filledHeight_56 : decode cX4_filledHeight 56 = .ok (.iload_n 2, 1) := by decide +kernel
theorem dX4_filledHeight_57 : decode cX4_filledHeight 57 = .ok (.ireturn, 1) := by decide +kernel
end
section
theorem dX5_init_0 : decode cX5_init 0 = .ok (.aload_n 0, 1) := by decide +kernel
theorem dX5_init_1 : decode cX5_init 1 = .ok (.invokespecial 1, 3) := by decide +kernel
theorem dX5_init_4 : decode cX5_init 4 = .ok (.aload_n 0, 1) := by decide +kernel
theorem dX5_init_5 : decode cX5_init 5 = .ok (.bipush 12, 2) := by decide +kernel
theorem dX5_init_7 : decode cX5_init 7 = .ok (.newarray .int, 2) := by decide +kernel
theorem dX5_init_9 : decode cX5_init 9 = .ok (.putfield 7, 3) := by decide +kernel
theorem dX5_init_12 : decode cX5_init 12 = .ok (.aload_n 0, 1) := by decide +kernel
theorem dX5_init_13 : decode cX5_init 13 = .ok (.bipush 12, 2) := by decide +kernel
theorem dX5_init_15 : decode cX5_init 15 = .ok (.newarray .int, 2) := by decide +kernel
theorem dX5_init_17 : decode cX5_init 17 = .ok (.putfield 13, 3) := by decide +kernel
theorem dX5_init_20 : decode cX5_init 20 = .ok (.aload_n 0, 1) := by decide +kernel
theorem dX5_init_21 : decode cX5_init 21 = .ok (.bipush 12, 2) := by decide +kernel
theorem dX5_init_23 : decode cX5_init 23 = .ok (.newarray .int, 2) := by decide +kernel
theorem dX5_init_25 : decode cX5_init 25 = .ok (.putfield 16, 3) := by decide +kernel
theorem dX5_init_28 : decode cX5_init 28 = .ok (.aload_n 0, 1) := by decide +kernel
theorem dX5_init_29 : decode cX5_init 29 = .ok (.iconst 1, 1) := by decide +kernel
theorem dX5_init_30 : decode cX5_init 30 = .ok (.putfield 19, 3) := by decide +kernel
theorem dX5_init_33 : decode cX5_init 33 = .ok (.aload_n 0, 1) := by decide +kernel
theorem dX5_init_34 : decode cX5_init 34 = .ok (.bipush 16, 2) := by decide +kernel
theorem dX5_init_36 : decode cX5_init 36 = .ok (.newarray .int, 2) := by decide +kernel
theorem dX5_init_38 : decode cX5_init 38 = .ok (.putfield 23, 3) := by decide +kernel
theorem dX5_init_41 : decode cX5_init 41 = .ok (.aload_n 0, 1) := by decide +kernel
theorem dX5_init_42 : decode cX5_init 42 = .ok (.bipush 16, 2) := by decide +kernel
theorem dX5_init_44 : decode cX5_init 44 = .ok (.newarray .int, 2) := by decide +kernel
theorem dX5_init_46 : decode cX5_init 46 = .ok (.putfield 26, 3) := by decide +kernel
theorem dX5_init_49 : decode cX5_init 49 = .ok (.aload_n 0, 1) := by decide +kernel
theorem dX5_init_50 : decode cX5_init 50 = .ok (.bipush 16, 2) := by decide +kernel
theorem dX5_init_52 : decode cX5_init 52 = .ok (.newarray .int, 2) := by decide +kernel
theorem dX5_init_54 : decode cX5_init 54 = .ok (.putfield 29, 3) := by decide +kernel
theorem dX5_init_57 : decode cX5_init 57 = .ok (.aload_n 0, 1) := by decide +kernel
theorem dX5_init_58 : decode cX5_init 58 = .ok (.bipush 16, 2) := by decide +kernel
theorem dX5_init_60 : decode cX5_init 60 = .ok (.newarray .int, 2) := by decide +kernel
theorem dX5_init_62 : decode cX5_init 62 = .ok (.putfield 32, 3) := by decide +kernel
theorem dX5_init_65 : decode cX5_init 65 = .ok (.aload_n 0, 1) := by decide +kernel
theorem dX5_init_66 : decode cX5_init 66 = .ok (.bipush 16, 2) := by decide +kernel
theorem dX5_init_68 : decode cX5_init 68 = .ok (.newarray .int, 2) := by decide +kernel
theorem dX5_init_70 : decode cX5_init 70 = .ok (.putfield 35, 3) := by decide +kernel
theorem dX5_init_73 : decode cX5_init 73 = .ok (.aload_n 0, 1) := by decide +kernel
theorem dX5_init_74 : decode cX5_init 74 = .ok (.bipush 16, 2) := by decide +kernel
theorem dX5_init_76 : decode cX5_init 76 = .ok (.newarray .int, 2) := by decide +kernel
theorem dX5_init_78 : decode cX5_init 78 = .ok (.putfield 38, 3) := by decide +kernel
theorem dX5_init_81 : decode cX5_init 81 = .ok (.aload_n 0, 1) := by decide +kernel
theorem dX5_init_82 : decode cX5_init 82 = .ok (.bipush 16, 2) := by decide +kernel
theorem dX5_init_84 : decode cX5_init 84 = .ok (.newarray .int, 2) := by decide +kernel
theorem dX5_init_86 : decode cX5_init 86 = .ok (.putfield 41, 3) := by decide +kernel
theorem dX5_init_89 : decode cX5_init 89 = .ok (.aload_n 0, 1) := by decide +kernel
theorem dX5_init_90 : decode cX5_init 90 = .ok (.bipush 16, 2) := by decide +kernel
theorem dX5_init_92 : decode cX5_init 92 = .ok (.newarray .int, 2) := by decide +kernel
theorem dX5_init_94 : decode cX5_init 94 = .ok (.putfield 44, 3) := by decide +kernel
theorem dX5_init_97 : decode cX5_init 97 = .ok (.aload_n 0, 1) := by decide +kernel
theorem dX5_init_98 : decode cX5_init 98 = .ok (.bipush 16, 2) := by decide +kernel
theorem dX5_init_100 : decode cX5_init 100 = .ok (.newarray .int, 2) := by decide +kernel
theorem dX5_init_102 : decode cX5_init 102 = .ok (.putfield 47, 3) := by decide +kernel
theorem dX5_init_105 : decode cX5_init 105 = .ok (.aload_n 0, 1) := by decide +kernel
theorem dX5_init_106 : decode cX5_init 106 = .ok (.bipush 16, 2) := by decide +kernel
theorem dX5_init_108 : decode cX5_init 108 = .ok (.newarray .int, 2) := by decide +kernel
theorem dX5_init_110 : decode cX5_init 110 = .ok (.putfield 50, 3) := by decide +kernel
theorem dX5_init_113 : decode cX5_init 113 = .ok (.aload_n 0, 1) := by decide +kernel
theorem dX5_init_114 : decode cX5_init 114 = .ok (.bipush 16, 2) := by decide +kernel
theorem dX5_init_116 : decode cX5_init 116 = .ok (.newarray .int, 2) := by decide +kernel
theorem dX5_init_118 : decode cX5_init 118 = .ok (.putfield 53, 3) := by decide +kernel
theorem dX5_init_121 : decode cX5_init 121 = .ok (.aload_n 0, 1) := by decide +kernel
theorem dX5_init_122 : decode cX5_init 122 = .ok (.bipush 16, 2) := by decide +kernel
theorem dX5_init_124 : decode cX5_init 124 = .ok (.newarray .int, 2) := by decide +kernel
theorem dX5_init_126 : decode cX5_init 126 = .ok (.putfield 56, 3) := by decide +kernel
theorem dX5_init_129 : decode cX5_init 129 = .ok (.aload_n 0, 1) := by decide +kernel
theorem dX5_init_130 : decode cX5_init 130 = .ok (.bipush 16, 2) := by decide +kernel
theorem dX5_init_132 : decode cX5_init 132 = .ok (.newarray .int, 2) := by decide +kernel
theorem dX5_init_134 : decode cX5_init 134 = .ok (.putfield 59, 3) := by decide +kernel
theorem dX5_init_137 : decode cX5_init 137 = .ok (.aload_n 0, 1) := by decide +kernel
theorem dX5_init_138 : decode cX5_init 138 = .ok (.bipush 16, 2) := by decide +kernel
theorem dX5_init_140 : decode cX5_init 140 = .ok (.newarray .int, 2) := by decide +kernel
theorem dX5_init_142 : decode cX5_init 142 = .ok (.putfield 62, 3) := by decide +kernel
theorem dX5_init_145 : decode cX5_init 145 = .ok (.aload_n 0, 1) := by decide +kernel
theorem dX5_init_146 : decode cX5_init 146 = .ok (.bipush 16, 2) := by decide +kernel
theorem dX5_init_148 : decode cX5_init 148 = .ok (.newarray .int, 2) := by decide +kernel
theorem dX5_init_150 : decode cX5_init 150 = .ok (.putfield 65, 3) := by decide +kernel
theorem dX5_init_153 : decode cX5_init 153 = .ok (.aload_n 0, 1) := by decide +kernel
theorem dX5_init_154 : decode cX5_init 154 = .ok (.bipush 12, 2) := by decide +kernel
theorem dX5_init_156 : decode cX5_init 156 = .ok (.newarray .int, 2) := by decide +kernel
theorem dX5_init_158 : decode cX5_init 158 = .ok (.putfield 68, 3) := by decide +kernel
theorem dX5_init_161 : decode cX5_init 161 = .ok (.return_, 1) := by decide +kernel
theorem dX5_thrown_0 : decode cX5_thrown 0 = .ok (.aload_n 0, 1) := by decide +kernel
theorem dX5_thrown_1 : decode cX5_thrown 1 = .ok (.getfield 71, 3) := by decide +kernel
theorem dX5_thrown_4 : decode cX5_thrown 4 = .ok (.ireturn, 1) := by decide +kernel
theorem dX5_holds_0 : decode cX5_holds 0 = .ok (.aload_n 0, 1) := by decide +kernel
theorem dX5_holds_1 : decode cX5_holds 1 = .ok (.iload_n 1, 1) := by decide +kernel
theorem dX5_holds_2 : decode cX5_holds 2 = .ok (.putfield 71, 3) := by decide +kernel
theorem dX5_holds_5 : decode cX5_holds 5 = .ok (.iload_n 1, 1) := by decide +kernel
theorem dX5_holds_6 : decode cX5_holds 6 = .ok (.ifCond .le 7, 3) := by decide +kernel
theorem dX5_holds_9 : decode cX5_holds 9 = .ok (.iconst 1, 1) := by decide +kernel
theorem dX5_holds_10 : decode cX5_holds 10 = .ok (.goto 4, 3) := by decide +kernel
theorem dX5_holds_13 : decode cX5_holds 13 = .ok (.iconst 0, 1) := by decide +kernel
theorem dX5_holds_14 : decode cX5_holds 14 = .ok (.ireturn, 1) := by decide +kernel
theorem dX5_in_0 : decode cX5_in 0 = .ok (.iload_n 1, 1) := by decide +kernel
theorem dX5_in_1 : decode cX5_in 1 = .ok (.iload_n 2, 1) := by decide +kernel
theorem dX5_in_2 : decode cX5_in 2 = .ok (.if_icmp .lt 12, 3) := by decide +kernel
theorem dX5_in_5 : decode cX5_in 5 = .ok (.iload_n 1, 1) := by decide +kernel
theorem dX5_in_6 : decode cX5_in 6 = .ok (.iload_n 3, 1) := by decide +kernel
theorem dX5_in_7 : decode cX5_in 7 = .ok (.if_icmp .gt 7, 3) := by decide +kernel
theorem dX5_in_10 : decode cX5_in 10 = .ok (.iconst 1, 1) := by decide +kernel
theorem dX5_in_11 : decode cX5_in 11 = .ok (.goto 4, 3) := by decide +kernel
theorem dX5_in_14 : decode cX5_in 14 = .ok (.iconst 0, 1) := by decide +kernel
theorem dX5_in_15 : decode cX5_in 15 = .ok (.ireturn, 1) := by decide +kernel
theorem dX5_isFold_0 : decode cX5_isFold 0 = .ok (.aload_n 0, 1) := by decide +kernel
theorem dX5_isFold_1 : decode cX5_isFold 1 = .ok (.iload_n 1, 1) := by decide +kernel
theorem dX5_isFold_2 : decode cX5_isFold 2 = .ok (.iconst 0, 1) := by decide +kernel
theorem dX5_isFold_3 : decode cX5_isFold 3 = .ok (.aload_n 0, 1) := by decide +kernel
theorem dX5_isFold_4 : decode cX5_isFold 4 = .ok (.getfield 19, 3) := by decide +kernel
theorem dX5_isFold_7 : decode cX5_isFold 7 = .ok (.iconst 1, 1) := by decide +kernel
theorem dX5_isFold_8 : decode cX5_isFold 8 = .ok (.isub, 1) := by decide +kernel
theorem dX5_isFold_9 : decode cX5_isFold 9 = .ok (.invokevirtual 74, 3) := by decide +kernel
theorem dX5_isFold_12 : decode cX5_isFold 12 = .ok (.ireturn, 1) := by decide +kernel
theorem dX5_isPart_0 : decode cX5_isPart 0 = .ok (.aload_n 0, 1) := by decide +kernel
theorem dX5_isPart_1 : decode cX5_isPart 1 = .ok (.iload_n 1, 1) := by decide +kernel
theorem dX5_isPart_2 : decode cX5_isPart 2 = .ok (.iconst 0, 1) := by decide +kernel
theorem dX5_isPart_3 : decode cX5_isPart 3 = .ok (.aload_n 0, 1) := by decide +kernel
theorem dX5_isPart_4 : decode cX5_isPart 4 = .ok (.getfield 78, 3) := by decide +kernel
theorem dX5_isPart_7 : decode cX5_isPart 7 = .ok (.iconst 1, 1) := by decide +kernel
theorem dX5_isPart_8 : decode cX5_isPart 8 = .ok (.isub, 1) := by decide +kernel
theorem dX5_isPart_9 : decode cX5_isPart 9 = .ok (.invokevirtual 74, 3) := by decide +kernel
theorem dX5_isPart_12 : decode cX5_isPart 12 = .ok (.ireturn, 1) := by decide +kernel
theorem dX5_down_0 : decode cX5_down 0 = .ok (.iload_n 1, 1) := by decide +kernel
theorem dX5_down_1 : decode cX5_down 1 = .ok (.ifCond .ge 14, 3) := by decide +kernel
theorem dX5_down_4 : decode cX5_down 4 = .ok (.iload_n 2, 1) := by decide +kernel
theorem dX5_down_5 : decode cX5_down 5 = .ok (.iconst 1, 1) := by decide +kernel
theorem dX5_down_6 : decode cX5_down 6 = .ok (.isub, 1) := by decide +kernel
theorem dX5_down_7 : decode cX5_down 7 = .ok (.iload_n 1, 1) := by decide +kernel
theorem dX5_down_8 : decode cX5_down 8 = .ok (.isub, 1) := by decide +kernel
theorem dX5_down_9 : decode cX5_down 9 = .ok (.iload_n 2, 1) := by decide +kernel
theorem dX5_down_10 : decode cX5_down 10 = .ok (.idiv, 1) := by decide +kernel
theorem dX5_down_11 : decode cX5_down 11 = .ok (.ineg, 1) := by decide +kernel
theorem dX5_down_12 : decode cX5_down 12 = .ok (.goto 6, 3) := by decide +kernel
theorem dX5_down_15 : decode cX5_down 15 = .ok (.iload_n 1, 1) := by decide +kernel
theorem dX5_down_16 : decode cX5_down 16 = .ok (.iload_n 2, 1) := by decide +kernel
theorem dX5_down_17 : decode cX5_down 17 = .ok (.idiv, 1) := by decide +kernel
theorem dX5_down_18 : decode cX5_down 18 = .ok (.ireturn, 1) := by decide +kernel
theorem dX5_angleOf_0 : decode cX5_angleOf 0 = .ok (.iconst 0, 1) := by decide +kernel
theorem dX5_angleOf_1 : decode cX5_angleOf 1 = .ok (.istore_n 3, 1) := by decide +kernel
theorem dX5_angleOf_2 : decode cX5_angleOf 2 = .ok (.iload_n 1, 1) := by decide +kernel
theorem dX5_angleOf_3 : decode cX5_angleOf 3 = .ok (.istore 4, 2) := by decide +kernel
theorem dX5_angleOf_5 : decode cX5_angleOf 5 = .ok (.iload 4, 2) := by decide +kernel
theorem dX5_angleOf_7 : decode cX5_angleOf 7 = .ok (.ifCond .le 26, 3) := by decide +kernel
theorem dX5_angleOf_10 : decode cX5_angleOf 10 = .ok (.aload_n 0, 1) := by decide +kernel
theorem dX5_angleOf_11 : decode cX5_angleOf 11 = .ok (.getfield 68, 3) := by decide +kernel
theorem dX5_angleOf_14 : decode cX5_angleOf 14 = .ok (.iload_n 3, 1) := by decide +kernel
theorem dX5_angleOf_15 : decode cX5_angleOf 15 = .ok (.iload 4, 2) := by decide +kernel
theorem dX5_angleOf_17 : decode cX5_angleOf 17 = .ok (.iastore, 1) := by decide +kernel
theorem dX5_angleOf_18 : decode cX5_angleOf 18 = .ok (.iinc 3 1, 3) := by decide +kernel
theorem dX5_angleOf_21 : decode cX5_angleOf 21 = .ok (.aload_n 0, 1) := by decide +kernel
theorem dX5_angleOf_22 : decode cX5_angleOf 22 = .ok (.getfield 7, 3) := by decide +kernel
theorem dX5_angleOf_25 : decode cX5_angleOf 25 = .ok (.iload 4, 2) := by decide +kernel
theorem dX5_angleOf_27 : decode cX5_angleOf 27 = .ok (.iaload, 1) := by decide +kernel
theorem dX5_angleOf_28 : decode cX5_angleOf 28 = .ok (.istore 4, 2) := by decide +kernel
theorem dX5_angleOf_30 : decode cX5_angleOf 30 = .ok (.goto (-25), 3) := by decide +kernel
theorem dX5_angleOf_33 : decode cX5_angleOf 33 = .ok (.iload_n 2, 1) := by decide +kernel
theorem dX5_angleOf_34 : decode cX5_angleOf 34 = .ok (.istore 4, 2) := by decide +kernel
theorem dX5_angleOf_36 : decode cX5_angleOf 36 = .ok (.iload_n 3, 1) := by decide +kernel
theorem dX5_angleOf_37 : decode cX5_angleOf 37 = .ok (.iconst 1, 1) := by decide +kernel
theorem dX5_angleOf_38 : decode cX5_angleOf 38 = .ok (.isub, 1) := by decide +kernel
theorem dX5_angleOf_39 : decode cX5_angleOf 39 = .ok (.istore 5, 2) := by decide +kernel
theorem dX5_angleOf_41 : decode cX5_angleOf 41 = .ok (.iload 5, 2) := by decide +kernel
theorem dX5_angleOf_43 : decode cX5_angleOf 43 = .ok (.ifCond .lt 71, 3) := by decide +kernel
theorem dX5_angleOf_46 : decode cX5_angleOf 46 = .ok (.aload_n 0, 1) := by decide +kernel
theorem dX5_angleOf_47 : decode cX5_angleOf 47 = .ok (.iload 4, 2) := by decide +kernel
theorem dX5_angleOf_49 : decode cX5_angleOf 49 = .ok (.aload_n 0, 1) := by decide +kernel
theorem dX5_angleOf_50 : decode cX5_angleOf 50 = .ok (.getfield 13, 3) := by decide +kernel
theorem dX5_angleOf_53 : decode cX5_angleOf 53 = .ok (.aload_n 0, 1) := by decide +kernel
theorem dX5_angleOf_54 : decode cX5_angleOf 54 = .ok (.getfield 68, 3) := by decide +kernel
theorem dX5_angleOf_57 : decode cX5_angleOf 57 = .ok (.iload 5, 2) := by decide +kernel
theorem dX5_angleOf_59 : decode cX5_angleOf 59 = .ok (.iaload, 1) := by decide +kernel
theorem dX5_angleOf_60 : decode cX5_angleOf 60 = .ok (.iaload, 1) := by decide +kernel
theorem dX5_angleOf_61 : decode cX5_angleOf 61 = .ok (.imul, 1) := by decide +kernel
theorem dX5_angleOf_62 : decode cX5_angleOf 62 = .ok (.iconst 4, 1) := by decide +kernel
theorem dX5_angleOf_63 : decode cX5_angleOf 63 = .ok (.invokevirtual 81, 3) := by decide +kernel
theorem dX5_angleOf_66 : decode cX5_angleOf 66 = .ok (.aload_n 0, 1) := by decide +kernel
theorem dX5_angleOf_67 : decode cX5_angleOf 67 = .ok (.getfield 16, 3) := by decide +kernel
theorem dX5_angleOf_70 : decode cX5_angleOf 70 = .ok (.aload_n 0, 1) := by decide +kernel
theorem dX5_angleOf_71 : decode cX5_angleOf 71 = .ok (.getfield 68, 3) := by decide +kernel
theorem dX5_angleOf_74 : decode cX5_angleOf 74 = .ok (.iload 5, 2) := by decide +kernel
theorem dX5_angleOf_76 : decode cX5_angleOf 76 = .ok (.iaload, 1) := by decide +kernel
theorem dX5_angleOf_77 : decode cX5_angleOf 77 = .ok (.iaload, 1) := by decide +kernel
theorem dX5_angleOf_78 : decode cX5_angleOf 78 = .ok (.iadd, 1) := by decide +kernel
theorem dX5_angleOf_79 : decode cX5_angleOf 79 = .ok (.istore 4, 2) := by decide +kernel
theorem dX5_angleOf_81 : decode cX5_angleOf 81 = .ok (.iload 4, 2) := by decide +kernel
theorem dX5_angleOf_83 : decode cX5_angleOf 83 = .ok (.ifCond .ge 7, 3) := by decide +kernel
theorem dX5_angleOf_86 : decode cX5_angleOf 86 = .ok (.iconst 0, 1) := by decide +kernel
theorem dX5_angleOf_87 : decode cX5_angleOf 87 = .ok (.goto 19, 3) := by decide +kernel
theorem dX5_angleOf_90 : decode cX5_angleOf 90 = .ok (.iload 4, 2) := by decide +kernel
theorem dX5_angleOf_92 : decode cX5_angleOf 92 = .ok (.sipush 180, 3) := by decide +kernel
theorem dX5_angleOf_95 : decode cX5_angleOf 95 = .ok (.if_icmp .le 9, 3) := by decide +kernel
theorem dX5_angleOf_98 : decode cX5_angleOf 98 = .ok (.sipush 180, 3) := by decide +kernel
theorem dX5_angleOf_101 : decode cX5_angleOf 101 = .ok (.goto 5, 3) := by decide +kernel
theorem dX5_angleOf_104 : decode cX5_angleOf 104 = .ok (.iload 4, 2) := by decide +kernel
theorem dX5_angleOf_106 : decode cX5_angleOf 106 = .ok (.istore 4, 2) := by decide +kernel
theorem dX5_angleOf_108 : decode cX5_angleOf 108 = .ok (.iinc 5 (-1), 3) := by decide +kernel
theorem dX5_angleOf_111 : decode cX5_angleOf 111 = .ok (.goto (-70), 3) := by decide +kernel
theorem dX5_angleOf_114 : decode cX5_angleOf 114 = .ok (.iload 4, 2) := by decide +kernel
theorem dX5_angleOf_116 : decode cX5_angleOf 116 = .ok (.ireturn, 1) := by decide +kernel
theorem dX5_bound_0 : decode cX5_bound 0 = .ok (.aload_n 0, 1) := by decide +kernel
theorem dX5_bound_1 : decode cX5_bound 1 = .ok (.getfield 78, 3) := by decide +kernel
theorem dX5_bound_4 : decode cX5_bound 4 = .ok (.ifCond .le 25, 3) := by decide +kernel
theorem dX5_bound_7 : decode cX5_bound 7 = .ok (.aload_n 0, 1) := by decide +kernel
theorem dX5_bound_8 : decode cX5_bound 8 = .ok (.getfield 85, 3) := by decide +kernel
theorem dX5_bound_11 : decode cX5_bound 11 = .ok (.aload_n 0, 1) := by decide +kernel
theorem dX5_bound_12 : decode cX5_bound 12 = .ok (.getfield 78, 3) := by decide +kernel
theorem dX5_bound_15 : decode cX5_bound 15 = .ok (.if_icmp .ne 14, 3) := by decide +kernel
theorem dX5_bound_18 : decode cX5_bound 18 = .ok (.aload_n 0, 1) := by decide +kernel
theorem dX5_bound_19 : decode cX5_bound 19 = .ok (.invokevirtual 88, 3) := by decide +kernel
theorem dX5_bound_22 : decode cX5_bound 22 = .ok (.ifCond .ge 7, 3) := by decide +kernel
theorem dX5_bound_25 : decode cX5_bound 25 = .ok (.iconst 1, 1) := by decide +kernel
theorem dX5_bound_26 : decode cX5_bound 26 = .ok (.goto 4, 3) := by decide +kernel
theorem dX5_bound_29 : decode cX5_bound 29 = .ok (.iconst 0, 1) := by decide +kernel
theorem dX5_bound_30 : decode cX5_bound 30 = .ok (.ireturn, 1) := by decide +kernel
theorem dX5_fold_0 : decode cX5_fold 0 = .ok (.aload_n 0, 1) := by decide +kernel
theorem dX5_fold_1 : decode cX5_fold 1 = .ok (.iload_n 2, 1) := by decide +kernel
theorem dX5_fold_2 : decode cX5_fold 2 = .ok (.iconst 1, 1) := by decide +kernel
theorem dX5_fold_3 : decode cX5_fold 3 = .ok (.bipush 8, 2) := by decide +kernel
theorem dX5_fold_5 : decode cX5_fold 5 = .ok (.invokevirtual 74, 3) := by decide +kernel
theorem dX5_fold_8 : decode cX5_fold 8 = .ok (.ifCond .eq 19, 3) := by decide +kernel
theorem dX5_fold_11 : decode cX5_fold 11 = .ok (.aload_n 0, 1) := by decide +kernel
theorem dX5_fold_12 : decode cX5_fold 12 = .ok (.iload_n 3, 1) := by decide +kernel
theorem dX5_fold_13 : decode cX5_fold 13 = .ok (.bipush (-90), 2) := by decide +kernel
theorem dX5_fold_15 : decode cX5_fold 15 = .ok (.bipush 90, 2) := by decide +kernel
theorem dX5_fold_17 : decode cX5_fold 17 = .ok (.invokevirtual 74, 3) := by decide +kernel
theorem dX5_fold_20 : decode cX5_fold 20 = .ok (.ifCond .eq 7, 3) := by decide +kernel
theorem dX5_fold_23 : decode cX5_fold 23 = .ok (.iconst 1, 1) := by decide +kernel
theorem dX5_fold_24 : decode cX5_fold 24 = .ok (.goto 4, 3) := by decide +kernel
theorem dX5_fold_27 : decode cX5_fold 27 = .ok (.iconst 0, 1) := by decide +kernel
theorem dX5_fold_28 : decode cX5_fold 28 = .ok (.istore 4, 2) := by decide +kernel
theorem dX5_fold_30 : decode cX5_fold 30 = .ok (.aload_n 0, 1) := by decide +kernel
theorem dX5_fold_31 : decode cX5_fold 31 = .ok (.aload_n 0, 1) := by decide +kernel
theorem dX5_fold_32 : decode cX5_fold 32 = .ok (.iload_n 1, 1) := by decide +kernel
theorem dX5_fold_33 : decode cX5_fold 33 = .ok (.invokevirtual 92, 3) := by decide +kernel
theorem dX5_fold_36 : decode cX5_fold 36 = .ok (.ifCond .ne 7, 3) := by decide +kernel
theorem dX5_fold_39 : decode cX5_fold 39 = .ok (.iconst 1, 1) := by decide +kernel
theorem dX5_fold_40 : decode cX5_fold 40 = .ok (.goto 33, 3) := by decide +kernel
theorem dX5_fold_43 : decode cX5_fold 43 = .ok (.iload 4, 2) := by decide +kernel
theorem dX5_fold_45 : decode cX5_fold 45 = .ok (.ifCond .ne 7, 3) := by decide +kernel
theorem dX5_fold_48 : decode cX5_fold 48 = .ok (.iconst 2, 1) := by decide +kernel
theorem dX5_fold_49 : decode cX5_fold 49 = .ok (.goto 24, 3) := by decide +kernel
theorem dX5_fold_52 : decode cX5_fold 52 = .ok (.aload_n 0, 1) := by decide +kernel
theorem dX5_fold_53 : decode cX5_fold 53 = .ok (.getfield 19, 3) := by decide +kernel
theorem dX5_fold_56 : decode cX5_fold 56 = .ok (.bipush 12, 2) := by decide +kernel
theorem dX5_fold_58 : decode cX5_fold 58 = .ok (.if_icmp .eq 10, 3) := by decide +kernel
theorem dX5_fold_61 : decode cX5_fold 61 = .ok (.aload_n 0, 1) := by decide +kernel
theorem dX5_fold_62 : decode cX5_fold 62 = .ok (.invokevirtual 96, 3) := by decide +kernel
theorem dX5_fold_65 : decode cX5_fold 65 = .ok (.ifCond .eq 7, 3) := by decide +kernel
theorem dX5_fold_68 : decode cX5_fold 68 = .ok (.iconst 3, 1) := by decide +kernel
theorem dX5_fold_69 : decode cX5_fold 69 = .ok (.goto 4, 3) := by decide +kernel
theorem dX5_fold_72 : decode cX5_fold 72 = .ok (.iconst 0, 1) := by decide +kernel
theorem dX5_fold_73 : decode cX5_fold 73 = .ok (.invokevirtual 100, 3) := by decide +kernel
theorem dX5_fold_76 : decode cX5_fold 76 = .ok (.ifCond .eq 5, 3) := by decide +kernel
theorem dX5_fold_79 : decode cX5_fold 79 = .ok (.iconst (-1), 1) := by decide +kernel
theorem dX5_fold_80 : decode cX5_fold 80 = .ok (.ireturn, 1) := by decide +kernel
theorem dX5_fold_81 : decode cX5_fold 81 = .ok (.aload_n 0, 1) := by decide +kernel
theorem dX5_fold_82 : decode cX5_fold 82 = .ok (.getfield 7, 3) := by decide +kernel
theorem dX5_fold_85 : decode cX5_fold 85 = .ok (.aload_n 0, 1) := by decide +kernel
theorem dX5_fold_86 : decode cX5_fold 86 = .ok (.getfield 19, 3) := by decide +kernel
theorem dX5_fold_89 : decode cX5_fold 89 = .ok (.iload_n 1, 1) := by decide +kernel
theorem dX5_fold_90 : decode cX5_fold 90 = .ok (.iastore, 1) := by decide +kernel
theorem dX5_fold_91 : decode cX5_fold 91 = .ok (.aload_n 0, 1) := by decide +kernel
theorem dX5_fold_92 : decode cX5_fold 92 = .ok (.getfield 13, 3) := by decide +kernel
theorem dX5_fold_95 : decode cX5_fold 95 = .ok (.aload_n 0, 1) := by decide +kernel
theorem dX5_fold_96 : decode cX5_fold 96 = .ok (.getfield 19, 3) := by decide +kernel
theorem dX5_fold_99 : decode cX5_fold 99 = .ok (.iload_n 2, 1) := by decide +kernel
theorem dX5_fold_100 : decode cX5_fold 100 = .ok (.iastore, 1) := by decide +kernel
theorem dX5_fold_101 : decode cX5_fold 101 = .ok (.aload_n 0, 1) := by decide +kernel
theorem dX5_fold_102 : decode cX5_fold 102 = .ok (.getfield 16, 3) := by decide +kernel
theorem dX5_fold_105 : decode cX5_fold 105 = .ok (.aload_n 0, 1) := by decide +kernel
theorem dX5_fold_106 : decode cX5_fold 106 = .ok (.getfield 19, 3) := by decide +kernel
theorem dX5_fold_109 : decode cX5_fold 109 = .ok (.iload_n 3, 1) := by decide +kernel
theorem dX5_fold_110 : decode cX5_fold 110 = .ok (.iastore, 1) := by decide +kernel
theorem dX5_fold_111 : decode cX5_fold 111 = .ok (.aload_n 0, 1) := by decide +kernel
theorem dX5_fold_112 : decode cX5_fold 112 = .ok (.dup, 1) := by decide +kernel
theorem dX5_fold_113 : decode cX5_fold 113 = .ok (.getfield 19, 3) := by decide +kernel
theorem dX5_fold_116 : decode cX5_fold 116 = .ok (.iconst 1, 1) := by decide +kernel
theorem dX5_fold_117 : decode cX5_fold 117 = .ok (.iadd, 1) := by decide +kernel
theorem dX5_fold_118 : decode cX5_fold 118 = .ok (.putfield 19, 3) := by decide +kernel
theorem dX5_fold_121 : decode cX5_fold 121 = .ok (.aload_n 0, 1) := by decide +kernel
theorem dX5_fold_122 : decode cX5_fold 122 = .ok (.getfield 19, 3) := by decide +kernel
theorem dX5_fold_125 : decode cX5_fold 125 = .ok (.iconst 1, 1) := by decide +kernel
theorem dX5_fold_126 : decode cX5_fold 126 = .ok (.isub, 1) := by decide +kernel
theorem dX5_fold_127 : decode cX5_fold 127 = .ok (.ireturn, 1) := by decide +kernel
theorem dX5_part_0 : decode cX5_part 0 = .ok (.aload_n 0, 1) := by decide +kernel
theorem dX5_part_1 : decode cX5_part 1 = .ok (.iload_n 2, 1) := by decide +kernel
theorem dX5_part_2 : decode cX5_part 2 = .ok (.iconst 0, 1) := by decide +kernel
theorem dX5_part_3 : decode cX5_part 3 = .ok (.bipush 60, 2) := by decide +kernel
theorem dX5_part_5 : decode cX5_part 5 = .ok (.invokevirtual 74, 3) := by decide +kernel
theorem dX5_part_8 : decode cX5_part 8 = .ok (.ifCond .eq 42, 3) := by decide +kernel
theorem dX5_part_11 : decode cX5_part 11 = .ok (.aload_n 0, 1) := by decide +kernel
theorem dX5_part_12 : decode cX5_part 12 = .ok (.iload_n 3, 1) := by decide +kernel
theorem dX5_part_13 : decode cX5_part 13 = .ok (.iconst 1, 1) := by decide +kernel
theorem dX5_part_14 : decode cX5_part 14 = .ok (.bipush 30, 2) := by decide +kernel
theorem dX5_part_16 : decode cX5_part 16 = .ok (.invokevirtual 74, 3) := by decide +kernel
theorem dX5_part_19 : decode cX5_part 19 = .ok (.ifCond .eq 31, 3) := by decide +kernel
theorem dX5_part_22 : decode cX5_part 22 = .ok (.aload_n 0, 1) := by decide +kernel
theorem dX5_part_23 : decode cX5_part 23 = .ok (.iload 4, 2) := by decide +kernel
theorem dX5_part_25 : decode cX5_part 25 = .ok (.iconst 0, 1) := by decide +kernel
theorem dX5_part_26 : decode cX5_part 26 = .ok (.bipush 20, 2) := by decide +kernel
theorem dX5_part_28 : decode cX5_part 28 = .ok (.invokevirtual 74, 3) := by decide +kernel
theorem dX5_part_31 : decode cX5_part 31 = .ok (.ifCond .eq 19, 3) := by decide +kernel
theorem dX5_part_34 : decode cX5_part 34 = .ok (.aload_n 0, 1) := by decide +kernel
theorem dX5_part_35 : decode cX5_part 35 = .ok (.iload 5, 2) := by decide +kernel
theorem dX5_part_37 : decode cX5_part 37 = .ok (.iconst 1, 1) := by decide +kernel
theorem dX5_part_38 : decode cX5_part 38 = .ok (.bipush 10, 2) := by decide +kernel
theorem dX5_part_40 : decode cX5_part 40 = .ok (.invokevirtual 74, 3) := by decide +kernel
theorem dX5_part_43 : decode cX5_part 43 = .ok (.ifCond .eq 7, 3) := by decide +kernel
theorem dX5_part_46 : decode cX5_part 46 = .ok (.iconst 1, 1) := by decide +kernel
theorem dX5_part_47 : decode cX5_part 47 = .ok (.goto 4, 3) := by decide +kernel
theorem dX5_part_50 : decode cX5_part 50 = .ok (.iconst 0, 1) := by decide +kernel
theorem dX5_part_51 : decode cX5_part 51 = .ok (.istore 7, 2) := by decide +kernel
theorem dX5_part_53 : decode cX5_part 53 = .ok (.aload_n 0, 1) := by decide +kernel
theorem dX5_part_54 : decode cX5_part 54 = .ok (.aload_n 0, 1) := by decide +kernel
theorem dX5_part_55 : decode cX5_part 55 = .ok (.iload_n 1, 1) := by decide +kernel
theorem dX5_part_56 : decode cX5_part 56 = .ok (.invokevirtual 92, 3) := by decide +kernel
theorem dX5_part_59 : decode cX5_part 59 = .ok (.ifCond .ne 7, 3) := by decide +kernel
theorem dX5_part_62 : decode cX5_part 62 = .ok (.iconst 1, 1) := by decide +kernel
theorem dX5_part_63 : decode cX5_part 63 = .ok (.goto 33, 3) := by decide +kernel
theorem dX5_part_66 : decode cX5_part 66 = .ok (.iload 7, 2) := by decide +kernel
theorem dX5_part_68 : decode cX5_part 68 = .ok (.ifCond .ne 7, 3) := by decide +kernel
theorem dX5_part_71 : decode cX5_part 71 = .ok (.iconst 2, 1) := by decide +kernel
theorem dX5_part_72 : decode cX5_part 72 = .ok (.goto 24, 3) := by decide +kernel
theorem dX5_part_75 : decode cX5_part 75 = .ok (.aload_n 0, 1) := by decide +kernel
theorem dX5_part_76 : decode cX5_part 76 = .ok (.getfield 78, 3) := by decide +kernel
theorem dX5_part_79 : decode cX5_part 79 = .ok (.bipush 16, 2) := by decide +kernel
theorem dX5_part_81 : decode cX5_part 81 = .ok (.if_icmp .eq 10, 3) := by decide +kernel
theorem dX5_part_84 : decode cX5_part 84 = .ok (.aload_n 0, 1) := by decide +kernel
theorem dX5_part_85 : decode cX5_part 85 = .ok (.invokevirtual 96, 3) := by decide +kernel
theorem dX5_part_88 : decode cX5_part 88 = .ok (.ifCond .eq 7, 3) := by decide +kernel
theorem dX5_part_91 : decode cX5_part 91 = .ok (.iconst 3, 1) := by decide +kernel
theorem dX5_part_92 : decode cX5_part 92 = .ok (.goto 4, 3) := by decide +kernel
theorem dX5_part_95 : decode cX5_part 95 = .ok (.iconst 0, 1) := by decide +kernel
theorem dX5_part_96 : decode cX5_part 96 = .ok (.invokevirtual 100, 3) := by decide +kernel
theorem dX5_part_99 : decode cX5_part 99 = .ok (.ifCond .eq 5, 3) := by decide +kernel
theorem dX5_part_102 : decode cX5_part 102 = .ok (.iconst (-1), 1) := by decide +kernel
theorem dX5_part_103 : decode cX5_part 103 = .ok (.ireturn, 1) := by decide +kernel
theorem dX5_part_104 : decode cX5_part 104 = .ok (.aload_n 0, 1) := by decide +kernel
theorem dX5_part_105 : decode cX5_part 105 = .ok (.getfield 23, 3) := by decide +kernel
theorem dX5_part_108 : decode cX5_part 108 = .ok (.aload_n 0, 1) := by decide +kernel
theorem dX5_part_109 : decode cX5_part 109 = .ok (.getfield 78, 3) := by decide +kernel
theorem dX5_part_112 : decode cX5_part 112 = .ok (.iload_n 1, 1) := by decide +kernel
theorem dX5_part_113 : decode cX5_part 113 = .ok (.iastore, 1) := by decide +kernel
theorem dX5_part_114 : decode cX5_part 114 = .ok (.aload_n 0, 1) := by decide +kernel
theorem dX5_part_115 : decode cX5_part 115 = .ok (.getfield 26, 3) := by decide +kernel
theorem dX5_part_118 : decode cX5_part 118 = .ok (.aload_n 0, 1) := by decide +kernel
theorem dX5_part_119 : decode cX5_part 119 = .ok (.getfield 78, 3) := by decide +kernel
theorem dX5_part_122 : decode cX5_part 122 = .ok (.iload_n 2, 1) := by decide +kernel
theorem dX5_part_123 : decode cX5_part 123 = .ok (.iastore, 1) := by decide +kernel
theorem dX5_part_124 : decode cX5_part 124 = .ok (.aload_n 0, 1) := by decide +kernel
theorem dX5_part_125 : decode cX5_part 125 = .ok (.getfield 29, 3) := by decide +kernel
theorem dX5_part_128 : decode cX5_part 128 = .ok (.aload_n 0, 1) := by decide +kernel
theorem dX5_part_129 : decode cX5_part 129 = .ok (.getfield 78, 3) := by decide +kernel
theorem dX5_part_132 : decode cX5_part 132 = .ok (.iload_n 3, 1) := by decide +kernel
theorem dX5_part_133 : decode cX5_part 133 = .ok (.iastore, 1) := by decide +kernel
theorem dX5_part_134 : decode cX5_part 134 = .ok (.aload_n 0, 1) := by decide +kernel
theorem dX5_part_135 : decode cX5_part 135 = .ok (.getfield 32, 3) := by decide +kernel
theorem dX5_part_138 : decode cX5_part 138 = .ok (.aload_n 0, 1) := by decide +kernel
theorem dX5_part_139 : decode cX5_part 139 = .ok (.getfield 78, 3) := by decide +kernel
theorem dX5_part_142 : decode cX5_part 142 = .ok (.iload 4, 2) := by decide +kernel
theorem dX5_part_144 : decode cX5_part 144 = .ok (.iastore, 1) := by decide +kernel
theorem dX5_part_145 : decode cX5_part 145 = .ok (.aload_n 0, 1) := by decide +kernel
theorem dX5_part_146 : decode cX5_part 146 = .ok (.getfield 35, 3) := by decide +kernel
theorem dX5_part_149 : decode cX5_part 149 = .ok (.aload_n 0, 1) := by decide +kernel
theorem dX5_part_150 : decode cX5_part 150 = .ok (.getfield 78, 3) := by decide +kernel
theorem dX5_part_153 : decode cX5_part 153 = .ok (.iload 5, 2) := by decide +kernel
theorem dX5_part_155 : decode cX5_part 155 = .ok (.iastore, 1) := by decide +kernel
theorem dX5_part_156 : decode cX5_part 156 = .ok (.aload_n 0, 1) := by decide +kernel
theorem dX5_part_157 : decode cX5_part 157 = .ok (.getfield 38, 3) := by decide +kernel
theorem dX5_part_160 : decode cX5_part 160 = .ok (.aload_n 0, 1) := by decide +kernel
theorem dX5_part_161 : decode cX5_part 161 = .ok (.getfield 78, 3) := by decide +kernel
theorem dX5_part_164 : decode cX5_part 164 = .ok (.iload 6, 2) := by decide +kernel
theorem dX5_part_166 : decode cX5_part 166 = .ok (.ifCond .eq 7, 3) := by decide +kernel
theorem dX5_part_169 : decode cX5_part 169 = .ok (.iconst 1, 1) := by decide +kernel
theorem dX5_part_170 : decode cX5_part 170 = .ok (.goto 4, 3) := by decide +kernel
theorem dX5_part_173 : decode cX5_part 173 = .ok (.iconst 0, 1) := by decide +kernel
theorem dX5_part_174 : decode cX5_part 174 = .ok (.iastore, 1) := by decide +kernel
theorem dX5_part_175 : decode cX5_part 175 = .ok (.aload_n 0, 1) := by decide +kernel
theorem dX5_part_176 : decode cX5_part 176 = .ok (.dup, 1) := by decide +kernel
theorem dX5_part_177 : decode cX5_part 177 = .ok (.getfield 78, 3) := by decide +kernel
theorem dX5_part_180 : decode cX5_part 180 = .ok (.iconst 1, 1) := by decide +kernel
theorem dX5_part_181 : decode cX5_part 181 = .ok (.iadd, 1) := by decide +kernel
theorem dX5_part_182 : decode cX5_part 182 = .ok (.putfield 78, 3) := by decide +kernel
theorem dX5_part_185 : decode cX5_part 185 = .ok (.aload_n 0, 1) := by decide +kernel
theorem dX5_part_186 : decode cX5_part 186 = .ok (.getfield 78, 3) := by decide +kernel
theorem dX5_part_189 : decode cX5_part 189 = .ok (.iconst 1, 1) := by decide +kernel
theorem dX5_part_190 : decode cX5_part 190 = .ok (.isub, 1) := by decide +kernel
theorem dX5_part_191 : decode cX5_part 191 = .ok (.ireturn, 1) := by decide +kernel
theorem dX5_angle_0 : decode cX5_angle 0 = .ok (.aload_n 0, 1) := by decide +kernel
theorem dX5_angle_1 : decode cX5_angle 1 = .ok (.aload_n 0, 1) := by decide +kernel
theorem dX5_angle_2 : decode cX5_angle 2 = .ok (.iload_n 1, 1) := by decide +kernel
theorem dX5_angle_3 : decode cX5_angle 3 = .ok (.invokevirtual 92, 3) := by decide +kernel
theorem dX5_angle_6 : decode cX5_angle 6 = .ok (.ifCond .ne 7, 3) := by decide +kernel
theorem dX5_angle_9 : decode cX5_angle 9 = .ok (.iconst 1, 1) := by decide +kernel
theorem dX5_angle_10 : decode cX5_angle 10 = .ok (.goto 20, 3) := by decide +kernel
theorem dX5_angle_13 : decode cX5_angle 13 = .ok (.aload_n 0, 1) := by decide +kernel
theorem dX5_angle_14 : decode cX5_angle 14 = .ok (.iload_n 2, 1) := by decide +kernel
theorem dX5_angle_15 : decode cX5_angle 15 = .ok (.iconst 0, 1) := by decide +kernel
theorem dX5_angle_16 : decode cX5_angle 16 = .ok (.sipush 180, 3) := by decide +kernel
theorem dX5_angle_19 : decode cX5_angle 19 = .ok (.invokevirtual 74, 3) := by decide +kernel
theorem dX5_angle_22 : decode cX5_angle 22 = .ok (.ifCond .eq 7, 3) := by decide +kernel
theorem dX5_angle_25 : decode cX5_angle 25 = .ok (.iconst 0, 1) := by decide +kernel
theorem dX5_angle_26 : decode cX5_angle 26 = .ok (.goto 4, 3) := by decide +kernel
theorem dX5_angle_29 : decode cX5_angle 29 = .ok (.iconst 2, 1) := by decide +kernel
theorem dX5_angle_30 : decode cX5_angle 30 = .ok (.invokevirtual 100, 3) := by decide +kernel
theorem dX5_angle_33 : decode cX5_angle 33 = .ok (.ifCond .eq 7, 3) := by decide +kernel
theorem dX5_angle_36 : decode cX5_angle 36 = .ok (.iconst (-1), 1) := by decide +kernel
theorem dX5_angle_37 : decode cX5_angle 37 = .ok (.goto 9, 3) := by decide +kernel
theorem dX5_angle_40 : decode cX5_angle 40 = .ok (.aload_n 0, 1) := by decide +kernel
theorem dX5_angle_41 : decode cX5_angle 41 = .ok (.iload_n 1, 1) := by decide +kernel
theorem dX5_angle_42 : decode cX5_angle 42 = .ok (.iload_n 2, 1) := by decide +kernel
theorem dX5_angle_43 : decode cX5_angle 43 = .ok (.invokevirtual 103, 3) := by decide +kernel
theorem dX5_angle_46 : decode cX5_angle 46 = .ok (.ireturn, 1) := by decide +kernel
theorem dX5_angleAnew_0 : decode cX5_angleAnew 0 = .ok (.aload_n 0, 1) := by decide +kernel
theorem dX5_angleAnew_1 : decode cX5_angleAnew 1 = .ok (.aload_n 0, 1) := by decide +kernel
theorem dX5_angleAnew_2 : decode cX5_angleAnew 2 = .ok (.iload_n 1, 1) := by decide +kernel
theorem dX5_angleAnew_3 : decode cX5_angleAnew 3 = .ok (.invokevirtual 92, 3) := by decide +kernel
theorem dX5_angleAnew_6 : decode cX5_angleAnew 6 = .ok (.ifCond .ne 7, 3) := by decide +kernel
theorem dX5_angleAnew_9 : decode cX5_angleAnew 9 = .ok (.iconst 1, 1) := by decide +kernel
theorem dX5_angleAnew_10 : decode cX5_angleAnew 10 = .ok (.goto 20, 3) := by decide +kernel
theorem dX5_angleAnew_13 : decode cX5_angleAnew 13 = .ok (.aload_n 0, 1) := by decide +kernel
theorem dX5_angleAnew_14 : decode cX5_angleAnew 14 = .ok (.iload_n 2, 1) := by decide +kernel
theorem dX5_angleAnew_15 : decode cX5_angleAnew 15 = .ok (.iconst 0, 1) := by decide +kernel
theorem dX5_angleAnew_16 : decode cX5_angleAnew 16 = .ok (.sipush 180, 3) := by decide +kernel
theorem dX5_angleAnew_19 : decode cX5_angleAnew 19 = .ok (.invokevirtual 74, 3) := by decide +kernel
theorem dX5_angleAnew_22 : decode cX5_angleAnew 22 = .ok (.ifCond .eq 7, 3) := by decide +kernel
theorem dX5_angleAnew_25 : decode cX5_angleAnew 25 = .ok (.iconst 0, 1) := by decide +kernel
theorem dX5_angleAnew_26 : decode cX5_angleAnew 26 = .ok (.goto 4, 3) := by decide +kernel
theorem dX5_angleAnew_29 : decode cX5_angleAnew 29 = .ok (.iconst 2, 1) := by decide +kernel
theorem dX5_angleAnew_30 : decode cX5_angleAnew 30 = .ok (.invokevirtual 100, 3) := by decide +kernel
theorem dX5_angleAnew_33 : decode cX5_angleAnew 33 = .ok (.ifCond .eq 7, 3) := by decide +kernel
theorem dX5_angleAnew_36 : decode cX5_angleAnew 36 = .ok (.iconst (-1), 1) := by decide +kernel
theorem dX5_angleAnew_37 : decode cX5_angleAnew 37 = .ok (.goto 9, 3) := by decide +kernel
theorem dX5_angleAnew_40 : decode cX5_angleAnew 40 = .ok (.aload_n 0, 1) := by decide +kernel
theorem dX5_angleAnew_41 : decode cX5_angleAnew 41 = .ok (.iload_n 1, 1) := by decide +kernel
theorem dX5_angleAnew_42 : decode cX5_angleAnew 42 = .ok (.iload_n 2, 1) := by decide +kernel
theorem dX5_angleAnew_43 : decode cX5_angleAnew 43 = .ok (.invokevirtual 103, 3) := by decide +kernel
theorem dX5_angleAnew_46 : decode cX5_angleAnew 46 = .ok (.ireturn, 1) := by decide +kernel
theorem dX5_rises_0 : decode cX5_rises 0 = .ok (.aload_n 0, 1) := by decide +kernel
theorem dX5_rises_1 : decode cX5_rises 1 = .ok (.aload_n 0, 1) := by decide +kernel
theorem dX5_rises_2 : decode cX5_rises 2 = .ok (.getfield 23, 3) := by decide +kernel
theorem dX5_rises_5 : decode cX5_rises 5 = .ok (.iload_n 1, 1) := by decide +kernel
theorem dX5_rises_6 : decode cX5_rises 6 = .ok (.iaload, 1) := by decide +kernel
theorem dX5_rises_7 : decode cX5_rises 7 = .ok (.iload_n 2, 1) := by decide +kernel
theorem dX5_rises_8 : decode cX5_rises 8 = .ok (.invokevirtual 103, 3) := by decide +kernel
theorem dX5_rises_11 : decode cX5_rises 11 = .ok (.istore_n 3, 1) := by decide +kernel
theorem dX5_rises_12 : decode cX5_rises 12 = .ok (.aload_n 0, 1) := by decide +kernel
theorem dX5_rises_13 : decode cX5_rises 13 = .ok (.getfield 29, 3) := by decide +kernel
theorem dX5_rises_16 : decode cX5_rises 16 = .ok (.iload_n 1, 1) := by decide +kernel
theorem dX5_rises_17 : decode cX5_rises 17 = .ok (.iaload, 1) := by decide +kernel
theorem dX5_rises_18 : decode cX5_rises 18 = .ok (.iload_n 3, 1) := by decide +kernel
theorem dX5_rises_19 : decode cX5_rises 19 = .ok (.sipush 180, 3) := by decide +kernel
theorem dX5_rises_22 : decode cX5_rises 22 = .ok (.iload_n 3, 1) := by decide +kernel
theorem dX5_rises_23 : decode cX5_rises 23 = .ok (.isub, 1) := by decide +kernel
theorem dX5_rises_24 : decode cX5_rises 24 = .ok (.if_icmp .ge 7, 3) := by decide +kernel
theorem dX5_rises_27 : decode cX5_rises 27 = .ok (.iload_n 3, 1) := by decide +kernel
theorem dX5_rises_28 : decode cX5_rises 28 = .ok (.goto 8, 3) := by decide +kernel
theorem dX5_rises_31 : decode cX5_rises 31 = .ok (.sipush 180, 3) := by decide +kernel
theorem dX5_rises_34 : decode cX5_rises 34 = .ok (.iload_n 3, 1) := by decide +kernel
theorem dX5_rises_35 : decode cX5_rises 35 = .ok (.isub, 1) := by decide +kernel
theorem dX5_rises_36 : decode cX5_rises 36 = .ok (.imul, 1) := by decide +kernel
theorem dX5_rises_37 : decode cX5_rises 37 = .ok (.bipush 90, 2) := by decide +kernel
theorem dX5_rises_39 : decode cX5_rises 39 = .ok (.idiv, 1) := by decide +kernel
theorem dX5_rises_40 : decode cX5_rises 40 = .ok (.ireturn, 1) := by decide +kernel
theorem dX5_reach_0 : decode cX5_reach 0 = .ok (.aload_n 0, 1) := by decide +kernel
theorem dX5_reach_1 : decode cX5_reach 1 = .ok (.getfield 26, 3) := by decide +kernel
theorem dX5_reach_4 : decode cX5_reach 4 = .ok (.iload_n 1, 1) := by decide +kernel
theorem dX5_reach_5 : decode cX5_reach 5 = .ok (.iaload, 1) := by decide +kernel
theorem dX5_reach_6 : decode cX5_reach 6 = .ok (.aload_n 0, 1) := by decide +kernel
theorem dX5_reach_7 : decode cX5_reach 7 = .ok (.getfield 29, 3) := by decide +kernel
theorem dX5_reach_10 : decode cX5_reach 10 = .ok (.iload_n 1, 1) := by decide +kernel
theorem dX5_reach_11 : decode cX5_reach 11 = .ok (.iaload, 1) := by decide +kernel
theorem dX5_reach_12 : decode cX5_reach 12 = .ok (.bipush 90, 2) := by decide +kernel
theorem dX5_reach_14 : decode cX5_reach 14 = .ok (.aload_n 0, 1) := by decide +kernel
theorem dX5_reach_15 : decode cX5_reach 15 = .ok (.aload_n 0, 1) := by decide +kernel
theorem dX5_reach_16 : decode cX5_reach 16 = .ok (.getfield 23, 3) := by decide +kernel
theorem dX5_reach_19 : decode cX5_reach 19 = .ok (.iload_n 1, 1) := by decide +kernel
theorem dX5_reach_20 : decode cX5_reach 20 = .ok (.iaload, 1) := by decide +kernel
theorem dX5_reach_21 : decode cX5_reach 21 = .ok (.iload_n 2, 1) := by decide +kernel
theorem dX5_reach_22 : decode cX5_reach 22 = .ok (.invokevirtual 103, 3) := by decide +kernel
theorem dX5_reach_25 : decode cX5_reach 25 = .ok (.isub, 1) := by decide +kernel
theorem dX5_reach_26 : decode cX5_reach 26 = .ok (.imul, 1) := by decide +kernel
theorem dX5_reach_27 : decode cX5_reach 27 = .ok (.bipush 90, 2) := by decide +kernel
theorem dX5_reach_29 : decode cX5_reach 29 = .ok (.idiv, 1) := by decide +kernel
theorem dX5_reach_30 : decode cX5_reach 30 = .ok (.iadd, 1) := by decide +kernel
theorem dX5_reach_31 : decode cX5_reach 31 = .ok (.ireturn, 1) := by decide +kernel
theorem dX5_low_0 : decode cX5_low 0 = .ok (.aload_n 0, 1) := by decide +kernel
theorem dX5_low_1 : decode cX5_low 1 = .ok (.iload_n 1, 1) := by decide +kernel
theorem dX5_low_2 : decode cX5_low 2 = .ok (.iload_n 2, 1) := by decide +kernel
theorem dX5_low_3 : decode cX5_low 3 = .ok (.invokevirtual 106, 3) := by decide +kernel
theorem dX5_low_6 : decode cX5_low 6 = .ok (.istore_n 3, 1) := by decide +kernel
theorem dX5_low_7 : decode cX5_low 7 = .ok (.iload_n 3, 1) := by decide +kernel
theorem dX5_low_8 : decode cX5_low 8 = .ok (.aload_n 0, 1) := by decide +kernel
theorem dX5_low_9 : decode cX5_low 9 = .ok (.getfield 26, 3) := by decide +kernel
theorem dX5_low_12 : decode cX5_low 12 = .ok (.iload_n 1, 1) := by decide +kernel
theorem dX5_low_13 : decode cX5_low 13 = .ok (.iaload, 1) := by decide +kernel
theorem dX5_low_14 : decode cX5_low 14 = .ok (.if_icmp .ge 7, 3) := by decide +kernel
theorem dX5_low_17 : decode cX5_low 17 = .ok (.iload_n 3, 1) := by decide +kernel
theorem dX5_low_18 : decode cX5_low 18 = .ok (.goto 9, 3) := by decide +kernel
theorem dX5_low_21 : decode cX5_low 21 = .ok (.aload_n 0, 1) := by decide +kernel
theorem dX5_low_22 : decode cX5_low 22 = .ok (.getfield 26, 3) := by decide +kernel
theorem dX5_low_25 : decode cX5_low 25 = .ok (.iload_n 1, 1) := by decide +kernel
theorem dX5_low_26 : decode cX5_low 26 = .ok (.iaload, 1) := by decide +kernel
theorem dX5_low_27 : decode cX5_low 27 = .ok (.ireturn, 1) := by decide +kernel
theorem dX5_high_0 : decode cX5_high 0 = .ok (.aload_n 0, 1) := by decide +kernel
theorem dX5_high_1 : decode cX5_high 1 = .ok (.iload_n 1, 1) := by decide +kernel
theorem dX5_high_2 : decode cX5_high 2 = .ok (.iload_n 2, 1) := by decide +kernel
theorem dX5_high_3 : decode cX5_high 3 = .ok (.invokevirtual 106, 3) := by decide +kernel
theorem dX5_high_6 : decode cX5_high 6 = .ok (.istore_n 3, 1) := by decide +kernel
theorem dX5_high_7 : decode cX5_high 7 = .ok (.iload_n 3, 1) := by decide +kernel
theorem dX5_high_8 : decode cX5_high 8 = .ok (.aload_n 0, 1) := by decide +kernel
theorem dX5_high_9 : decode cX5_high 9 = .ok (.getfield 26, 3) := by decide +kernel
theorem dX5_high_12 : decode cX5_high 12 = .ok (.iload_n 1, 1) := by decide +kernel
theorem dX5_high_13 : decode cX5_high 13 = .ok (.iaload, 1) := by decide +kernel
theorem dX5_high_14 : decode cX5_high 14 = .ok (.if_icmp .le 7, 3) := by decide +kernel
theorem dX5_high_17 : decode cX5_high 17 = .ok (.iload_n 3, 1) := by decide +kernel
theorem dX5_high_18 : decode cX5_high 18 = .ok (.goto 9, 3) := by decide +kernel
theorem dX5_high_21 : decode cX5_high 21 = .ok (.aload_n 0, 1) := by decide +kernel
theorem dX5_high_22 : decode cX5_high 22 = .ok (.getfield 26, 3) := by decide +kernel
theorem dX5_high_25 : decode cX5_high 25 = .ok (.iload_n 1, 1) := by decide +kernel
theorem dX5_high_26 : decode cX5_high 26 = .ok (.iaload, 1) := by decide +kernel
theorem dX5_high_27 : decode cX5_high 27 = .ok (.ireturn, 1) := by decide +kernel
theorem dX5_share_0 : decode cX5_share 0 = .ok (.aload_n 0, 1) := by decide +kernel
theorem dX5_share_1 : decode cX5_share 1 = .ok (.getfield 32, 3) := by decide +kernel
theorem dX5_share_4 : decode cX5_share 4 = .ok (.iload_n 1, 1) := by decide +kernel
theorem dX5_share_5 : decode cX5_share 5 = .ok (.iaload, 1) := by decide +kernel
theorem dX5_share_6 : decode cX5_share 6 = .ok (.aload_n 0, 1) := by decide +kernel
theorem dX5_share_7 : decode cX5_share 7 = .ok (.getfield 32, 3) := by decide +kernel
theorem dX5_share_10 : decode cX5_share 10 = .ok (.iload_n 2, 1) := by decide +kernel
theorem dX5_share_11 : decode cX5_share 11 = .ok (.iaload, 1) := by decide +kernel
theorem dX5_share_12 : decode cX5_share 12 = .ok (.aload_n 0, 1) := by decide +kernel
theorem dX5_share_13 : decode cX5_share 13 = .ok (.getfield 35, 3) := by decide +kernel
theorem dX5_share_16 : decode cX5_share 16 = .ok (.iload_n 2, 1) := by decide +kernel
theorem dX5_share_17 : decode cX5_share 17 = .ok (.iaload, 1) := by decide +kernel
theorem dX5_share_18 : decode cX5_share 18 = .ok (.iadd, 1) := by decide +kernel
theorem dX5_share_19 : decode cX5_share 19 = .ok (.iconst 1, 1) := by decide +kernel
theorem dX5_share_20 : decode cX5_share 20 = .ok (.isub, 1) := by decide +kernel
theorem dX5_share_21 : decode cX5_share 21 = .ok (.if_icmp .gt 31, 3) := by decide +kernel
theorem dX5_share_24 : decode cX5_share 24 = .ok (.aload_n 0, 1) := by decide +kernel
theorem dX5_share_25 : decode cX5_share 25 = .ok (.getfield 32, 3) := by decide +kernel
theorem dX5_share_28 : decode cX5_share 28 = .ok (.iload_n 2, 1) := by decide +kernel
theorem dX5_share_29 : decode cX5_share 29 = .ok (.iaload, 1) := by decide +kernel
theorem dX5_share_30 : decode cX5_share 30 = .ok (.aload_n 0, 1) := by decide +kernel
theorem dX5_share_31 : decode cX5_share 31 = .ok (.getfield 32, 3) := by decide +kernel
theorem dX5_share_34 : decode cX5_share 34 = .ok (.iload_n 1, 1) := by decide +kernel
theorem dX5_share_35 : decode cX5_share 35 = .ok (.iaload, 1) := by decide +kernel
theorem dX5_share_36 : decode cX5_share 36 = .ok (.aload_n 0, 1) := by decide +kernel
theorem dX5_share_37 : decode cX5_share 37 = .ok (.getfield 35, 3) := by decide +kernel
theorem dX5_share_40 : decode cX5_share 40 = .ok (.iload_n 1, 1) := by decide +kernel
theorem dX5_share_41 : decode cX5_share 41 = .ok (.iaload, 1) := by decide +kernel
theorem dX5_share_42 : decode cX5_share 42 = .ok (.iadd, 1) := by decide +kernel
theorem dX5_share_43 : decode cX5_share 43 = .ok (.iconst 1, 1) := by decide +kernel
theorem dX5_share_44 : decode cX5_share 44 = .ok (.isub, 1) := by decide +kernel
theorem dX5_share_45 : decode cX5_share 45 = .ok (.if_icmp .gt 7, 3) := by decide +kernel
theorem dX5_share_48 : decode cX5_share 48 = .ok (.iconst 1, 1) := by decide +kernel
theorem dX5_share_49 : decode cX5_share 49 = .ok (.goto 4, 3) := by decide +kernel
theorem dX5_share_52 : decode cX5_share 52 = .ok (.iconst 0, 1) := by decide +kernel
theorem dX5_share_53 : decode cX5_share 53 = .ok (.ireturn, 1) := by decide +kernel
theorem dX5_meets_0 : decode cX5_meets 0 = .ok (.aload_n 0, 1) := by decide +kernel
theorem dX5_meets_1 : decode cX5_meets 1 = .ok (.iload_n 1, 1) := by decide +kernel
theorem dX5_meets_2 : decode cX5_meets 2 = .ok (.iload_n 3, 1) := by decide +kernel
theorem dX5_meets_3 : decode cX5_meets 3 = .ok (.invokevirtual 109, 3) := by decide +kernel
theorem dX5_meets_6 : decode cX5_meets 6 = .ok (.istore 4, 2) := by decide +kernel
theorem dX5_meets_8 : decode cX5_meets 8 = .ok (.aload_n 0, 1) := by decide +kernel
theorem dX5_meets_9 : decode cX5_meets 9 = .ok (.iload_n 2, 1) := by decide +kernel
theorem dX5_meets_10 : decode cX5_meets 10 = .ok (.iload_n 3, 1) := by decide +kernel
theorem dX5_meets_11 : decode cX5_meets 11 = .ok (.invokevirtual 109, 3) := by decide +kernel
theorem dX5_meets_14 : decode cX5_meets 14 = .ok (.istore 5, 2) := by decide +kernel
theorem dX5_meets_16 : decode cX5_meets 16 = .ok (.iload_n 1, 1) := by decide +kernel
theorem dX5_meets_17 : decode cX5_meets 17 = .ok (.iload_n 2, 1) := by decide +kernel
theorem dX5_meets_18 : decode cX5_meets 18 = .ok (.if_icmp .eq 74, 3) := by decide +kernel
theorem dX5_meets_21 : decode cX5_meets 21 = .ok (.aload_n 0, 1) := by decide +kernel
theorem dX5_meets_22 : decode cX5_meets 22 = .ok (.iload_n 1, 1) := by decide +kernel
theorem dX5_meets_23 : decode cX5_meets 23 = .ok (.iload_n 2, 1) := by decide +kernel
theorem dX5_meets_24 : decode cX5_meets 24 = .ok (.invokevirtual 112, 3) := by decide +kernel
theorem dX5_meets_27 : decode cX5_meets 27 = .ok (.ifCond .eq 65, 3) := by decide +kernel
theorem dX5_meets_30 : decode cX5_meets 30 = .ok (.iload 4, 2) := by decide +kernel
theorem dX5_meets_32 : decode cX5_meets 32 = .ok (.ifCond .le 60, 3) := by decide +kernel
theorem dX5_meets_35 : decode cX5_meets 35 = .ok (.iload 5, 2) := by decide +kernel
theorem dX5_meets_37 : decode cX5_meets 37 = .ok (.ifCond .le 55, 3) := by decide +kernel
theorem dX5_meets_40 : decode cX5_meets 40 = .ok (.iload 4, 2) := by decide +kernel
theorem dX5_meets_42 : decode cX5_meets 42 = .ok (.iload 5, 2) := by decide +kernel
theorem dX5_meets_44 : decode cX5_meets 44 = .ok (.isub, 1) := by decide +kernel
theorem dX5_meets_45 : decode cX5_meets 45 = .ok (.iconst 2, 1) := by decide +kernel
theorem dX5_meets_46 : decode cX5_meets 46 = .ok (.if_icmp .ge 46, 3) := by decide +kernel
theorem dX5_meets_49 : decode cX5_meets 49 = .ok (.iload 5, 2) := by decide +kernel
theorem dX5_meets_51 : decode cX5_meets 51 = .ok (.iload 4, 2) := by decide +kernel
theorem dX5_meets_53 : decode cX5_meets 53 = .ok (.isub, 1) := by decide +kernel
theorem dX5_meets_54 : decode cX5_meets 54 = .ok (.iconst 2, 1) := by decide +kernel
theorem dX5_meets_55 : decode cX5_meets 55 = .ok (.if_icmp .ge 37, 3) := by decide +kernel
theorem dX5_meets_58 : decode cX5_meets 58 = .ok (.aload_n 0, 1) := by decide +kernel
theorem dX5_meets_59 : decode cX5_meets 59 = .ok (.iload_n 1, 1) := by decide +kernel
theorem dX5_meets_60 : decode cX5_meets 60 = .ok (.iload_n 3, 1) := by decide +kernel
theorem dX5_meets_61 : decode cX5_meets 61 = .ok (.invokevirtual 116, 3) := by decide +kernel
theorem dX5_meets_64 : decode cX5_meets 64 = .ok (.aload_n 0, 1) := by decide +kernel
theorem dX5_meets_65 : decode cX5_meets 65 = .ok (.iload_n 2, 1) := by decide +kernel
theorem dX5_meets_66 : decode cX5_meets 66 = .ok (.iload_n 3, 1) := by decide +kernel
theorem dX5_meets_67 : decode cX5_meets 67 = .ok (.invokevirtual 119, 3) := by decide +kernel
theorem dX5_meets_70 : decode cX5_meets 70 = .ok (.if_icmp .gt 22, 3) := by decide +kernel
theorem dX5_meets_73 : decode cX5_meets 73 = .ok (.aload_n 0, 1) := by decide +kernel
theorem dX5_meets_74 : decode cX5_meets 74 = .ok (.iload_n 2, 1) := by decide +kernel
theorem dX5_meets_75 : decode cX5_meets 75 = .ok (.iload_n 3, 1) := by decide +kernel
theorem dX5_meets_76 : decode cX5_meets 76 = .ok (.invokevirtual 116, 3) := by decide +kernel
theorem dX5_meets_79 : decode cX5_meets 79 = .ok (.aload_n 0, 1) := by decide +kernel
theorem dX5_meets_80 : decode cX5_meets 80 = .ok (.iload_n 1, 1) := by decide +kernel
theorem dX5_meets_81 : decode cX5_meets 81 = .ok (.iload_n 3, 1) := by decide +kernel
theorem dX5_meets_82 : decode cX5_meets 82 = .ok (.invokevirtual 119, 3) := by decide +kernel
theorem dX5_meets_85 : decode cX5_meets 85 = .ok (.if_icmp .gt 7, 3) := by decide +kernel
theorem dX5_meets_88 : decode cX5_meets 88 = .ok (.iconst 1, 1) := by decide +kernel
theorem dX5_meets_89 : decode cX5_meets 89 = .ok (.goto 4, 3) := by decide +kernel
theorem dX5_meets_92 : decode cX5_meets 92 = .ok (.iconst 0, 1) := by decide +kernel
theorem dX5_meets_93 : decode cX5_meets 93 = .ok (.ireturn, 1) := by decide +kernel
theorem dX5_where_0 : decode cX5_where 0 = .ok (.aload_n 0, 1) := by decide +kernel
theorem dX5_where_1 : decode cX5_where 1 = .ok (.aload_n 0, 1) := by decide +kernel
theorem dX5_where_2 : decode cX5_where 2 = .ok (.iload_n 1, 1) := by decide +kernel
theorem dX5_where_3 : decode cX5_where 3 = .ok (.invokevirtual 122, 3) := by decide +kernel
theorem dX5_where_6 : decode cX5_where 6 = .ok (.ifCond .ne 7, 3) := by decide +kernel
theorem dX5_where_9 : decode cX5_where 9 = .ok (.iconst 1, 1) := by decide +kernel
theorem dX5_where_10 : decode cX5_where 10 = .ok (.goto 30, 3) := by decide +kernel
theorem dX5_where_13 : decode cX5_where 13 = .ok (.aload_n 0, 1) := by decide +kernel
theorem dX5_where_14 : decode cX5_where 14 = .ok (.iload_n 2, 1) := by decide +kernel
theorem dX5_where_15 : decode cX5_where 15 = .ok (.iconst 0, 1) := by decide +kernel
theorem dX5_where_16 : decode cX5_where 16 = .ok (.sipush 180, 3) := by decide +kernel
theorem dX5_where_19 : decode cX5_where 19 = .ok (.invokevirtual 74, 3) := by decide +kernel
theorem dX5_where_22 : decode cX5_where 22 = .ok (.ifCond .eq 17, 3) := by decide +kernel
theorem dX5_where_25 : decode cX5_where 25 = .ok (.aload_n 0, 1) := by decide +kernel
theorem dX5_where_26 : decode cX5_where 26 = .ok (.iload_n 3, 1) := by decide +kernel
theorem dX5_where_27 : decode cX5_where 27 = .ok (.iconst 0, 1) := by decide +kernel
theorem dX5_where_28 : decode cX5_where 28 = .ok (.iconst 2, 1) := by decide +kernel
theorem dX5_where_29 : decode cX5_where 29 = .ok (.invokevirtual 74, 3) := by decide +kernel
theorem dX5_where_32 : decode cX5_where 32 = .ok (.ifCond .eq 7, 3) := by decide +kernel
theorem dX5_where_35 : decode cX5_where 35 = .ok (.iconst 0, 1) := by decide +kernel
theorem dX5_where_36 : decode cX5_where 36 = .ok (.goto 4, 3) := by decide +kernel
theorem dX5_where_39 : decode cX5_where 39 = .ok (.iconst 2, 1) := by decide +kernel
theorem dX5_where_40 : decode cX5_where 40 = .ok (.invokevirtual 100, 3) := by decide +kernel
theorem dX5_where_43 : decode cX5_where 43 = .ok (.ifCond .eq 5, 3) := by decide +kernel
theorem dX5_where_46 : decode cX5_where 46 = .ok (.iconst (-1), 1) := by decide +kernel
theorem dX5_where_47 : decode cX5_where 47 = .ok (.ireturn, 1) := by decide +kernel
theorem dX5_where_48 : decode cX5_where 48 = .ok (.iload_n 3, 1) := by decide +kernel
theorem dX5_where_49 : decode cX5_where 49 = .ok (.ifCond .ne 12, 3) := by decide +kernel
theorem dX5_where_52 : decode cX5_where 52 = .ok (.aload_n 0, 1) := by decide +kernel
theorem dX5_where_53 : decode cX5_where 53 = .ok (.iload_n 1, 1) := by decide +kernel
theorem dX5_where_54 : decode cX5_where 54 = .ok (.iload_n 2, 1) := by decide +kernel
theorem dX5_where_55 : decode cX5_where 55 = .ok (.invokevirtual 109, 3) := by decide +kernel
theorem dX5_where_58 : decode cX5_where 58 = .ok (.goto 23, 3) := by decide +kernel
theorem dX5_where_61 : decode cX5_where 61 = .ok (.iload_n 3, 1) := by decide +kernel
theorem dX5_where_62 : decode cX5_where 62 = .ok (.iconst 1, 1) := by decide +kernel
theorem dX5_where_63 : decode cX5_where 63 = .ok (.if_icmp .ne 12, 3) := by decide +kernel
theorem dX5_where_66 : decode cX5_where 66 = .ok (.aload_n 0, 1) := by decide +kernel
theorem dX5_where_67 : decode cX5_where 67 = .ok (.iload_n 1, 1) := by decide +kernel
theorem dX5_where_68 : decode cX5_where 68 = .ok (.iload_n 2, 1) := by decide +kernel
theorem dX5_where_69 : decode cX5_where 69 = .ok (.invokevirtual 116, 3) := by decide +kernel
theorem dX5_where_72 : decode cX5_where 72 = .ok (.goto 9, 3) := by decide +kernel
theorem dX5_where_75 : decode cX5_where 75 = .ok (.aload_n 0, 1) := by decide +kernel
theorem dX5_where_76 : decode cX5_where 76 = .ok (.iload_n 1, 1) := by decide +kernel
theorem dX5_where_77 : decode cX5_where 77 = .ok (.iload_n 2, 1) := by decide +kernel
theorem dX5_where_78 : decode cX5_where 78 = .ok (.invokevirtual 119, 3) := by decide +kernel
theorem dX5_where_81 : decode cX5_where 81 = .ok (.ireturn, 1) := by decide +kernel
theorem dX5_meet_0 : decode cX5_meet 0 = .ok (.aload_n 0, 1) := by decide +kernel
theorem dX5_meet_1 : decode cX5_meet 1 = .ok (.aload_n 0, 1) := by decide +kernel
theorem dX5_meet_2 : decode cX5_meet 2 = .ok (.iload_n 1, 1) := by decide +kernel
theorem dX5_meet_3 : decode cX5_meet 3 = .ok (.invokevirtual 122, 3) := by decide +kernel
theorem dX5_meet_6 : decode cX5_meet 6 = .ok (.ifCond .eq 11, 3) := by decide +kernel
theorem dX5_meet_9 : decode cX5_meet 9 = .ok (.aload_n 0, 1) := by decide +kernel
theorem dX5_meet_10 : decode cX5_meet 10 = .ok (.iload_n 2, 1) := by decide +kernel
theorem dX5_meet_11 : decode cX5_meet 11 = .ok (.invokevirtual 122, 3) := by decide +kernel
theorem dX5_meet_14 : decode cX5_meet 14 = .ok (.ifCond .ne 7, 3) := by decide +kernel
theorem dX5_meet_17 : decode cX5_meet 17 = .ok (.iconst 1, 1) := by decide +kernel
theorem dX5_meet_18 : decode cX5_meet 18 = .ok (.goto 20, 3) := by decide +kernel
theorem dX5_meet_21 : decode cX5_meet 21 = .ok (.aload_n 0, 1) := by decide +kernel
theorem dX5_meet_22 : decode cX5_meet 22 = .ok (.iload_n 3, 1) := by decide +kernel
theorem dX5_meet_23 : decode cX5_meet 23 = .ok (.iconst 0, 1) := by decide +kernel
theorem dX5_meet_24 : decode cX5_meet 24 = .ok (.sipush 180, 3) := by decide +kernel
theorem dX5_meet_27 : decode cX5_meet 27 = .ok (.invokevirtual 74, 3) := by decide +kernel
theorem dX5_meet_30 : decode cX5_meet 30 = .ok (.ifCond .eq 7, 3) := by decide +kernel
theorem dX5_meet_33 : decode cX5_meet 33 = .ok (.iconst 0, 1) := by decide +kernel
theorem dX5_meet_34 : decode cX5_meet 34 = .ok (.goto 4, 3) := by decide +kernel
theorem dX5_meet_37 : decode cX5_meet 37 = .ok (.iconst 2, 1) := by decide +kernel
theorem dX5_meet_38 : decode cX5_meet 38 = .ok (.invokevirtual 100, 3) := by decide +kernel
theorem dX5_meet_41 : decode cX5_meet 41 = .ok (.ifCond .eq 5, 3) := by decide +kernel
theorem dX5_meet_44 : decode cX5_meet 44 = .ok (.iconst 0, 1) := by decide +kernel
theorem dX5_meet_45 : decode cX5_meet 45 = .ok (.ireturn, 1) := by decide +kernel
theorem dX5_meet_46 : decode cX5_meet 46 = .ok (.aload_n 0, 1) := by decide +kernel
theorem dX5_meet_47 : decode cX5_meet 47 = .ok (.iload_n 1, 1) := by decide +kernel
theorem dX5_meet_48 : decode cX5_meet 48 = .ok (.iload_n 2, 1) := by decide +kernel
theorem dX5_meet_49 : decode cX5_meet 49 = .ok (.iload_n 3, 1) := by decide +kernel
theorem dX5_meet_50 : decode cX5_meet 50 = .ok (.invokevirtual 125, 3) := by decide +kernel
theorem dX5_meet_53 : decode cX5_meet 53 = .ok (.ireturn, 1) := by decide +kernel
theorem dX5_tests_0 : decode cX5_tests 0 = .ok (.iconst 0, 1) := by decide +kernel
theorem dX5_tests_1 : decode cX5_tests 1 = .ok (.istore_n 1, 1) := by decide +kernel
theorem dX5_tests_2 : decode cX5_tests 2 = .ok (.iload_n 1, 1) := by decide +kernel
theorem dX5_tests_3 : decode cX5_tests 3 = .ok (.sipush 180, 3) := by decide +kernel
theorem dX5_tests_6 : decode cX5_tests 6 = .ok (.if_icmp .gt 63, 3) := by decide +kernel
theorem dX5_tests_9 : decode cX5_tests 9 = .ok (.iconst 0, 1) := by decide +kernel
theorem dX5_tests_10 : decode cX5_tests 10 = .ok (.istore_n 2, 1) := by decide +kernel
theorem dX5_tests_11 : decode cX5_tests 11 = .ok (.iload_n 2, 1) := by decide +kernel
theorem dX5_tests_12 : decode cX5_tests 12 = .ok (.aload_n 0, 1) := by decide +kernel
theorem dX5_tests_13 : decode cX5_tests 13 = .ok (.getfield 78, 3) := by decide +kernel
theorem dX5_tests_16 : decode cX5_tests 16 = .ok (.aload_n 0, 1) := by decide +kernel
theorem dX5_tests_17 : decode cX5_tests 17 = .ok (.getfield 78, 3) := by decide +kernel
theorem dX5_tests_20 : decode cX5_tests 20 = .ok (.imul, 1) := by decide +kernel
theorem dX5_tests_21 : decode cX5_tests 21 = .ok (.if_icmp .ge 42, 3) := by decide +kernel
theorem dX5_tests_24 : decode cX5_tests 24 = .ok (.aload_n 0, 1) := by decide +kernel
theorem dX5_tests_25 : decode cX5_tests 25 = .ok (.iload_n 2, 1) := by decide +kernel
theorem dX5_tests_26 : decode cX5_tests 26 = .ok (.aload_n 0, 1) := by decide +kernel
theorem dX5_tests_27 : decode cX5_tests 27 = .ok (.getfield 78, 3) := by decide +kernel
theorem dX5_tests_30 : decode cX5_tests 30 = .ok (.idiv, 1) := by decide +kernel
theorem dX5_tests_31 : decode cX5_tests 31 = .ok (.iload_n 2, 1) := by decide +kernel
theorem dX5_tests_32 : decode cX5_tests 32 = .ok (.aload_n 0, 1) := by decide +kernel
theorem dX5_tests_33 : decode cX5_tests 33 = .ok (.getfield 78, 3) := by decide +kernel
theorem dX5_tests_36 : decode cX5_tests 36 = .ok (.irem, 1) := by decide +kernel
theorem dX5_tests_37 : decode cX5_tests 37 = .ok (.iload_n 1, 1) := by decide +kernel
theorem dX5_tests_38 : decode cX5_tests 38 = .ok (.invokevirtual 125, 3) := by decide +kernel
theorem dX5_tests_41 : decode cX5_tests 41 = .ok (.ifCond .eq 16, 3) := by decide +kernel
theorem dX5_tests_44 : decode cX5_tests 44 = .ok (.sipush 1000, 3) := by decide +kernel
theorem dX5_tests_47 : decode cX5_tests 47 = .ok (.iload_n 2, 1) := by decide +kernel
theorem dX5_tests_48 : decode cX5_tests 48 = .ok (.aload_n 0, 1) := by decide +kernel
theorem dX5_tests_49 : decode cX5_tests 49 = .ok (.getfield 78, 3) := by decide +kernel
theorem dX5_tests_52 : decode cX5_tests 52 = .ok (.idiv, 1) := by decide +kernel
theorem dX5_tests_53 : decode cX5_tests 53 = .ok (.imul, 1) := by decide +kernel
theorem dX5_tests_54 : decode cX5_tests 54 = .ok (.iload_n 1, 1) := by decide +kernel
theorem dX5_tests_55 : decode cX5_tests 55 = .ok (.iadd, 1) := by decide +kernel
theorem dX5_tests_56 : decode cX5_tests 56 = .ok (.ireturn, 1) := by decide +kernel
theorem dX5_tests_57 : decode cX5_tests 57 = .ok (.iinc 2 1, 3) := by decide +kernel
theorem dX5_tests_60 : decode cX5_tests 60 = .ok (.goto (-49), 3) := by decide +kernel
theorem dX5_tests_63 : decode cX5_tests 63 = .ok (.iinc 1 15, 3) := by decide +kernel
theorem dX5_tests_66 : decode cX5_tests 66 = .ok (.goto (-64), 3) := by decide +kernel
theorem dX5_tests_69 : decode cX5_tests 69 = .ok (.iconst (-1), 1) := by decide +kernel
theorem dX5_tests_70 : decode cX5_tests 70 = .ok (.ireturn, 1) := by decide +kernel
theorem dX5_test_0 : decode cX5_test 0 = .ok (.aload_n 0, 1) := by decide +kernel
theorem dX5_test_1 : decode cX5_test 1 = .ok (.iconst 0, 1) := by decide +kernel
theorem dX5_test_2 : decode cX5_test 2 = .ok (.invokevirtual 100, 3) := by decide +kernel
theorem dX5_test_5 : decode cX5_test 5 = .ok (.pop, 1) := by decide +kernel
theorem dX5_test_6 : decode cX5_test 6 = .ok (.aload_n 0, 1) := by decide +kernel
theorem dX5_test_7 : decode cX5_test 7 = .ok (.invokevirtual 88, 3) := by decide +kernel
theorem dX5_test_10 : decode cX5_test 10 = .ok (.ireturn, 1) := by decide +kernel
theorem dX5_wide_0 : decode cX5_wide 0 = .ok (.aload_n 0, 1) := by decide +kernel
theorem dX5_wide_1 : decode cX5_wide 1 = .ok (.getfield 38, 3) := by decide +kernel
theorem dX5_wide_4 : decode cX5_wide 4 = .ok (.iload_n 1, 1) := by decide +kernel
theorem dX5_wide_5 : decode cX5_wide 5 = .ok (.iaload, 1) := by decide +kernel
theorem dX5_wide_6 : decode cX5_wide 6 = .ok (.iconst 1, 1) := by decide +kernel
theorem dX5_wide_7 : decode cX5_wide 7 = .ok (.if_icmp .ne 12, 3) := by decide +kernel
theorem dX5_wide_10 : decode cX5_wide 10 = .ok (.aload_n 0, 1) := by decide +kernel
theorem dX5_wide_11 : decode cX5_wide 11 = .ok (.getfield 29, 3) := by decide +kernel
theorem dX5_wide_14 : decode cX5_wide 14 = .ok (.iload_n 1, 1) := by decide +kernel
theorem dX5_wide_15 : decode cX5_wide 15 = .ok (.iaload, 1) := by decide +kernel
theorem dX5_wide_16 : decode cX5_wide 16 = .ok (.goto 9, 3) := by decide +kernel
theorem dX5_wide_19 : decode cX5_wide 19 = .ok (.aload_n 0, 1) := by decide +kernel
theorem dX5_wide_20 : decode cX5_wide 20 = .ok (.getfield 35, 3) := by decide +kernel
theorem dX5_wide_23 : decode cX5_wide 23 = .ok (.iload_n 1, 1) := by decide +kernel
theorem dX5_wide_24 : decode cX5_wide 24 = .ok (.iaload, 1) := by decide +kernel
theorem dX5_wide_25 : decode cX5_wide 25 = .ok (.ireturn, 1) := by decide +kernel
theorem dX5_tall_0 : decode cX5_tall 0 = .ok (.aload_n 0, 1) := by decide +kernel
theorem dX5_tall_1 : decode cX5_tall 1 = .ok (.getfield 38, 3) := by decide +kernel
theorem dX5_tall_4 : decode cX5_tall 4 = .ok (.iload_n 1, 1) := by decide +kernel
theorem dX5_tall_5 : decode cX5_tall 5 = .ok (.iaload, 1) := by decide +kernel
theorem dX5_tall_6 : decode cX5_tall 6 = .ok (.iconst 1, 1) := by decide +kernel
theorem dX5_tall_7 : decode cX5_tall 7 = .ok (.if_icmp .ne 12, 3) := by decide +kernel
theorem dX5_tall_10 : decode cX5_tall 10 = .ok (.aload_n 0, 1) := by decide +kernel
theorem dX5_tall_11 : decode cX5_tall 11 = .ok (.getfield 35, 3) := by decide +kernel
theorem dX5_tall_14 : decode cX5_tall 14 = .ok (.iload_n 1, 1) := by decide +kernel
theorem dX5_tall_15 : decode cX5_tall 15 = .ok (.iaload, 1) := by decide +kernel
theorem dX5_tall_16 : decode cX5_tall 16 = .ok (.goto 9, 3) := by decide +kernel
theorem dX5_tall_19 : decode cX5_tall 19 = .ok (.aload_n 0, 1) := by decide +kernel
theorem dX5_tall_20 : decode cX5_tall 20 = .ok (.getfield 29, 3) := by decide +kernel
theorem dX5_tall_23 : decode cX5_tall 23 = .ok (.iload_n 1, 1) := by decide +kernel
theorem dX5_tall_24 : decode cX5_tall 24 = .ok (.iaload, 1) := by decide +kernel
theorem dX5_tall_25 : decode cX5_tall 25 = .ok (.ireturn, 1) := by decide +kernel
theorem dX5_shelfFor_0 : decode cX5_shelfFor 0 = .ok (.iconst (-1), 1) := by decide +kernel
theorem dX5_shelfFor_1 : decode cX5_shelfFor 1 = .ok (.istore_n 2, 1) := by decide +kernel
theorem dX5_shelfFor_2 : decode cX5_shelfFor 2 = .ok (.iconst 0, 1) := by decide +kernel
theorem dX5_shelfFor_3 : decode cX5_shelfFor 3 = .ok (.istore_n 3, 1) := by decide +kernel
theorem dX5_shelfFor_4 : decode cX5_shelfFor 4 = .ok (.iload_n 3, 1) := by decide +kernel
theorem dX5_shelfFor_5 : decode cX5_shelfFor 5 = .ok (.aload_n 0, 1) := by decide +kernel
theorem dX5_shelfFor_6 : decode cX5_shelfFor 6 = .ok (.getfield 128, 3) := by decide +kernel
theorem dX5_shelfFor_9 : decode cX5_shelfFor 9 = .ok (.if_icmp .ge 119, 3) := by decide +kernel
theorem dX5_shelfFor_12 : decode cX5_shelfFor 12 = .ok (.aload_n 0, 1) := by decide +kernel
theorem dX5_shelfFor_13 : decode cX5_shelfFor 13 = .ok (.getfield 50, 3) := by decide +kernel
theorem dX5_shelfFor_16 : decode cX5_shelfFor 16 = .ok (.iload_n 3, 1) := by decide +kernel
theorem dX5_shelfFor_17 : decode cX5_shelfFor 17 = .ok (.iaload, 1) := by decide +kernel
theorem dX5_shelfFor_18 : decode cX5_shelfFor 18 = .ok (.aload_n 0, 1) := by decide +kernel
theorem dX5_shelfFor_19 : decode cX5_shelfFor 19 = .ok (.iload_n 1, 1) := by decide +kernel
theorem dX5_shelfFor_20 : decode cX5_shelfFor 20 = .ok (.invokevirtual 131, 3) := by decide +kernel
theorem dX5_shelfFor_23 : decode cX5_shelfFor 23 = .ok (.if_icmp .lt 24, 3) := by decide +kernel
theorem dX5_shelfFor_26 : decode cX5_shelfFor 26 = .ok (.aload_n 0, 1) := by decide +kernel
theorem dX5_shelfFor_27 : decode cX5_shelfFor 27 = .ok (.getfield 53, 3) := by decide +kernel
theorem dX5_shelfFor_30 : decode cX5_shelfFor 30 = .ok (.iload_n 3, 1) := by decide +kernel
theorem dX5_shelfFor_31 : decode cX5_shelfFor 31 = .ok (.iaload, 1) := by decide +kernel
theorem dX5_shelfFor_32 : decode cX5_shelfFor 32 = .ok (.aload_n 0, 1) := by decide +kernel
theorem dX5_shelfFor_33 : decode cX5_shelfFor 33 = .ok (.iload_n 1, 1) := by decide +kernel
theorem dX5_shelfFor_34 : decode cX5_shelfFor 34 = .ok (.invokevirtual 135, 3) := by decide +kernel
theorem dX5_shelfFor_37 : decode cX5_shelfFor 37 = .ok (.iadd, 1) := by decide +kernel
theorem dX5_shelfFor_38 : decode cX5_shelfFor 38 = .ok (.bipush 40, 2) := by decide +kernel
theorem dX5_shelfFor_40 : decode cX5_shelfFor 40 = .ok (.if_icmp .gt 7, 3) := by decide +kernel
theorem dX5_shelfFor_43 : decode cX5_shelfFor 43 = .ok (.iconst 1, 1) := by decide +kernel
theorem dX5_shelfFor_44 : decode cX5_shelfFor 44 = .ok (.goto 4, 3) := by decide +kernel
theorem dX5_shelfFor_47 : decode cX5_shelfFor 47 = .ok (.iconst 0, 1) := by decide +kernel
theorem dX5_shelfFor_48 : decode cX5_shelfFor 48 = .ok (.istore 4, 2) := by decide +kernel
theorem dX5_shelfFor_50 : decode cX5_shelfFor 50 = .ok (.iload_n 2, 1) := by decide +kernel
theorem dX5_shelfFor_51 : decode cX5_shelfFor 51 = .ok (.ifCond .lt 48, 3) := by decide +kernel
theorem dX5_shelfFor_54 : decode cX5_shelfFor 54 = .ok (.aload_n 0, 1) := by decide +kernel
theorem dX5_shelfFor_55 : decode cX5_shelfFor 55 = .ok (.getfield 44, 3) := by decide +kernel
theorem dX5_shelfFor_58 : decode cX5_shelfFor 58 = .ok (.iload_n 3, 1) := by decide +kernel
theorem dX5_shelfFor_59 : decode cX5_shelfFor 59 = .ok (.iaload, 1) := by decide +kernel
theorem dX5_shelfFor_60 : decode cX5_shelfFor 60 = .ok (.aload_n 0, 1) := by decide +kernel
theorem dX5_shelfFor_61 : decode cX5_shelfFor 61 = .ok (.getfield 44, 3) := by decide +kernel
theorem dX5_shelfFor_64 : decode cX5_shelfFor 64 = .ok (.iload_n 2, 1) := by decide +kernel
theorem dX5_shelfFor_65 : decode cX5_shelfFor 65 = .ok (.iaload, 1) := by decide +kernel
theorem dX5_shelfFor_66 : decode cX5_shelfFor 66 = .ok (.if_icmp .lt 33, 3) := by decide +kernel
theorem dX5_shelfFor_69 : decode cX5_shelfFor 69 = .ok (.aload_n 0, 1) := by decide +kernel
theorem dX5_shelfFor_70 : decode cX5_shelfFor 70 = .ok (.getfield 44, 3) := by decide +kernel
theorem dX5_shelfFor_73 : decode cX5_shelfFor 73 = .ok (.iload_n 3, 1) := by decide +kernel
theorem dX5_shelfFor_74 : decode cX5_shelfFor 74 = .ok (.iaload, 1) := by decide +kernel
theorem dX5_shelfFor_75 : decode cX5_shelfFor 75 = .ok (.aload_n 0, 1) := by decide +kernel
theorem dX5_shelfFor_76 : decode cX5_shelfFor 76 = .ok (.getfield 44, 3) := by decide +kernel
theorem dX5_shelfFor_79 : decode cX5_shelfFor 79 = .ok (.iload_n 2, 1) := by decide +kernel
theorem dX5_shelfFor_80 : decode cX5_shelfFor 80 = .ok (.iaload, 1) := by decide +kernel
theorem dX5_shelfFor_81 : decode cX5_shelfFor 81 = .ok (.if_icmp .ne 22, 3) := by decide +kernel
theorem dX5_shelfFor_84 : decode cX5_shelfFor 84 = .ok (.aload_n 0, 1) := by decide +kernel
theorem dX5_shelfFor_85 : decode cX5_shelfFor 85 = .ok (.getfield 47, 3) := by decide +kernel
theorem dX5_shelfFor_88 : decode cX5_shelfFor 88 = .ok (.iload_n 3, 1) := by decide +kernel
theorem dX5_shelfFor_89 : decode cX5_shelfFor 89 = .ok (.iaload, 1) := by decide +kernel
theorem dX5_shelfFor_90 : decode cX5_shelfFor 90 = .ok (.aload_n 0, 1) := by decide +kernel
theorem dX5_shelfFor_91 : decode cX5_shelfFor 91 = .ok (.getfield 47, 3) := by decide +kernel
theorem dX5_shelfFor_94 : decode cX5_shelfFor 94 = .ok (.iload_n 2, 1) := by decide +kernel
theorem dX5_shelfFor_95 : decode cX5_shelfFor 95 = .ok (.iaload, 1) := by decide +kernel
theorem dX5_shelfFor_96 : decode cX5_shelfFor 96 = .ok (.if_icmp .ge 7, 3) := by decide +kernel
theorem dX5_shelfFor_99 : decode cX5_shelfFor 99 = .ok (.iconst 1, 1) := by decide +kernel
theorem dX5_shelfFor_100 : decode cX5_shelfFor 100 = .ok (.goto 4, 3) := by decide +kernel
theorem dX5_shelfFor_103 : decode cX5_shelfFor 103 = .ok (.iconst 0, 1) := by decide +kernel
theorem dX5_shelfFor_104 : decode cX5_shelfFor 104 = .ok (.istore 5, 2) := by decide +kernel
theorem dX5_shelfFor_106 : decode cX5_shelfFor 106 = .ok (.iload 4, 2) := by decide +kernel
theorem dX5_shelfFor_108 : decode cX5_shelfFor 108 = .ok (.ifCond .eq 12, 3) := by decide +kernel
theorem dX5_shelfFor_111 : decode cX5_shelfFor 111 = .ok (.iload 5, 2) := by decide +kernel
theorem dX5_shelfFor_113 : decode cX5_shelfFor 113 = .ok (.ifCond .eq 7, 3) := by decide +kernel
theorem dX5_shelfFor_116 : decode cX5_shelfFor 116 = .ok (.iload_n 3, 1) := by decide +kernel
theorem dX5_shelfFor_117 : decode cX5_shelfFor 117 = .ok (.goto 4, 3) := by decide +kernel
theorem dX5_shelfFor_120 : decode cX5_shelfFor 120 = .ok (.iload_n 2, 1) := by decide +kernel
theorem dX5_shelfFor_121 : decode cX5_shelfFor 121 = .ok (.istore_n 2, 1) := by decide +kernel
theorem dX5_shelfFor_122 : decode cX5_shelfFor 122 = .ok (.iinc 3 1, 3) := by decide +kernel
theorem dX5_shelfFor_125 : decode cX5_shelfFor 125 = .ok (.goto (-121), 3) := by decide +kernel
theorem dX5_shelfFor_128 : decode cX5_shelfFor 128 = .ok (.iload_n 2, 1) := by decide +kernel
theorem dX5_shelfFor_129 : decode cX5_shelfFor 129 = .ok (.ireturn, 1) := by decide +kernel
theorem dX5_newShelf_0 : decode cX5_newShelf 0 = .ok (.iconst 0, 1) := by decide +kernel
theorem dX5_newShelf_1 : decode cX5_newShelf 1 = .ok (.istore_n 2, 1) := by decide +kernel
theorem dX5_newShelf_2 : decode cX5_newShelf 2 = .ok (.iload_n 2, 1) := by decide +kernel
theorem dX5_newShelf_3 : decode cX5_newShelf 3 = .ok (.aload_n 0, 1) := by decide +kernel
theorem dX5_newShelf_4 : decode cX5_newShelf 4 = .ok (.getfield 138, 3) := by decide +kernel
theorem dX5_newShelf_7 : decode cX5_newShelf 7 = .ok (.if_icmp .ge 26, 3) := by decide +kernel
theorem dX5_newShelf_10 : decode cX5_newShelf 10 = .ok (.aload_n 0, 1) := by decide +kernel
theorem dX5_newShelf_11 : decode cX5_newShelf 11 = .ok (.getfield 56, 3) := by decide +kernel
theorem dX5_newShelf_14 : decode cX5_newShelf 14 = .ok (.iload_n 2, 1) := by decide +kernel
theorem dX5_newShelf_15 : decode cX5_newShelf 15 = .ok (.iaload, 1) := by decide +kernel
theorem dX5_newShelf_16 : decode cX5_newShelf 16 = .ok (.aload_n 0, 1) := by decide +kernel
theorem dX5_newShelf_17 : decode cX5_newShelf 17 = .ok (.iload_n 1, 1) := by decide +kernel
theorem dX5_newShelf_18 : decode cX5_newShelf 18 = .ok (.invokevirtual 131, 3) := by decide +kernel
theorem dX5_newShelf_21 : decode cX5_newShelf 21 = .ok (.iadd, 1) := by decide +kernel
theorem dX5_newShelf_22 : decode cX5_newShelf 22 = .ok (.bipush 30, 2) := by decide +kernel
theorem dX5_newShelf_24 : decode cX5_newShelf 24 = .ok (.if_icmp .le 9, 3) := by decide +kernel
theorem dX5_newShelf_27 : decode cX5_newShelf 27 = .ok (.iinc 2 1, 3) := by decide +kernel
theorem dX5_newShelf_30 : decode cX5_newShelf 30 = .ok (.goto (-28), 3) := by decide +kernel
theorem dX5_newShelf_33 : decode cX5_newShelf 33 = .ok (.iload_n 2, 1) := by decide +kernel
theorem dX5_newShelf_34 : decode cX5_newShelf 34 = .ok (.aload_n 0, 1) := by decide +kernel
theorem dX5_newShelf_35 : decode cX5_newShelf 35 = .ok (.getfield 138, 3) := by decide +kernel
theorem dX5_newShelf_38 : decode cX5_newShelf 38 = .ok (.if_icmp .ne 20, 3) := by decide +kernel
theorem dX5_newShelf_41 : decode cX5_newShelf 41 = .ok (.aload_n 0, 1) := by decide +kernel
theorem dX5_newShelf_42 : decode cX5_newShelf 42 = .ok (.getfield 56, 3) := by decide +kernel
theorem dX5_newShelf_45 : decode cX5_newShelf 45 = .ok (.iload_n 2, 1) := by decide +kernel
theorem dX5_newShelf_46 : decode cX5_newShelf 46 = .ok (.iconst 0, 1) := by decide +kernel
theorem dX5_newShelf_47 : decode cX5_newShelf 47 = .ok (.iastore, 1) := by decide +kernel
theorem dX5_newShelf_48 : decode cX5_newShelf 48 = .ok (.aload_n 0, 1) := by decide +kernel
theorem dX5_newShelf_49 : decode cX5_newShelf 49 = .ok (.dup, 1) := by decide +kernel
theorem dX5_newShelf_50 : decode cX5_newShelf 50 = .ok (.getfield 138, 3) := by decide +kernel
theorem dX5_newShelf_53 : decode cX5_newShelf 53 = .ok (.iconst 1, 1) := by decide +kernel
theorem dX5_newShelf_54 : decode cX5_newShelf 54 = .ok (.iadd, 1) := by decide +kernel
theorem dX5_newShelf_55 : decode cX5_newShelf 55 = .ok (.putfield 138, 3) := by decide +kernel
theorem dX5_newShelf_58 : decode cX5_newShelf 58 = .ok (.aload_n 0, 1) := by decide +kernel
theorem dX5_newShelf_59 : decode cX5_newShelf 59 = .ok (.getfield 44, 3) := by decide +kernel
theorem dX5_newShelf_62 : decode cX5_newShelf 62 = .ok (.aload_n 0, 1) := by decide +kernel
theorem dX5_newShelf_63 : decode cX5_newShelf 63 = .ok (.getfield 128, 3) := by decide +kernel
theorem dX5_newShelf_66 : decode cX5_newShelf 66 = .ok (.iload_n 2, 1) := by decide +kernel
theorem dX5_newShelf_67 : decode cX5_newShelf 67 = .ok (.iastore, 1) := by decide +kernel
theorem dX5_newShelf_68 : decode cX5_newShelf 68 = .ok (.aload_n 0, 1) := by decide +kernel
theorem dX5_newShelf_69 : decode cX5_newShelf 69 = .ok (.getfield 47, 3) := by decide +kernel
theorem dX5_newShelf_72 : decode cX5_newShelf 72 = .ok (.aload_n 0, 1) := by decide +kernel
theorem dX5_newShelf_73 : decode cX5_newShelf 73 = .ok (.getfield 128, 3) := by decide +kernel
theorem dX5_newShelf_76 : decode cX5_newShelf 76 = .ok (.aload_n 0, 1) := by decide +kernel
theorem dX5_newShelf_77 : decode cX5_newShelf 77 = .ok (.getfield 56, 3) := by decide +kernel
theorem dX5_newShelf_80 : decode cX5_newShelf 80 = .ok (.iload_n 2, 1) := by decide +kernel
theorem dX5_newShelf_81 : decode cX5_newShelf 81 = .ok (.iaload, 1) := by decide +kernel
theorem dX5_newShelf_82 : decode cX5_newShelf 82 = .ok (.iastore, 1) := by decide +kernel
theorem dX5_newShelf_83 : decode cX5_newShelf 83 = .ok (.aload_n 0, 1) := by decide +kernel
theorem dX5_newShelf_84 : decode cX5_newShelf 84 = .ok (.getfield 50, 3) := by decide +kernel
theorem dX5_newShelf_87 : decode cX5_newShelf 87 = .ok (.aload_n 0, 1) := by decide +kernel
theorem dX5_newShelf_88 : decode cX5_newShelf 88 = .ok (.getfield 128, 3) := by decide +kernel
theorem dX5_newShelf_91 : decode cX5_newShelf 91 = .ok (.aload_n 0, 1) := by decide +kernel
theorem dX5_newShelf_92 : decode cX5_newShelf 92 = .ok (.iload_n 1, 1) := by decide +kernel
theorem dX5_newShelf_93 : decode cX5_newShelf 93 = .ok (.invokevirtual 131, 3) := by decide +kernel
theorem dX5_newShelf_96 : decode cX5_newShelf 96 = .ok (.iastore, 1) := by decide +kernel
theorem dX5_newShelf_97 : decode cX5_newShelf 97 = .ok (.aload_n 0, 1) := by decide +kernel
theorem dX5_newShelf_98 : decode cX5_newShelf 98 = .ok (.getfield 53, 3) := by decide +kernel
theorem dX5_newShelf_101 : decode cX5_newShelf 101 = .ok (.aload_n 0, 1) := by decide +kernel
theorem dX5_newShelf_102 : decode cX5_newShelf 102 = .ok (.getfield 128, 3) := by decide +kernel
theorem dX5_newShelf_105 : decode cX5_newShelf 105 = .ok (.iconst 0, 1) := by decide +kernel
theorem dX5_newShelf_106 : decode cX5_newShelf 106 = .ok (.iastore, 1) := by decide +kernel
theorem dX5_newShelf_107 : decode cX5_newShelf 107 = .ok (.aload_n 0, 1) := by decide +kernel
theorem dX5_newShelf_108 : decode cX5_newShelf 108 = .ok (.getfield 56, 3) := by decide +kernel
theorem dX5_newShelf_111 : decode cX5_newShelf 111 = .ok (.iload_n 2, 1) := by decide +kernel
theorem dX5_newShelf_112 : decode cX5_newShelf 112 = .ok (.dup2, 1) := by decide +kernel
theorem dX5_newShelf_113 : decode cX5_newShelf 113 = .ok (.iaload, 1) := by decide +kernel
theorem dX5_newShelf_114 : decode cX5_newShelf 114 = .ok (.aload_n 0, 1) := by decide +kernel
theorem dX5_newShelf_115 : decode cX5_newShelf 115 = .ok (.iload_n 1, 1) := by decide +kernel
theorem dX5_newShelf_116 : decode cX5_newShelf 116 = .ok (.invokevirtual 131, 3) := by decide +kernel
theorem dX5_newShelf_119 : decode cX5_newShelf 119 = .ok (.iadd, 1) := by decide +kernel
theorem dX5_newShelf_120 : decode cX5_newShelf 120 = .ok (.iastore, 1) := by decide +kernel
theorem dX5_newShelf_121 : decode cX5_newShelf 121 = .ok (.aload_n 0, 1) := by decide +kernel
theorem dX5_newShelf_122 : decode cX5_newShelf 122 = .ok (.dup, 1) := by decide +kernel
theorem dX5_newShelf_123 : decode cX5_newShelf 123 = .ok (.getfield 128, 3) := by decide +kernel
theorem dX5_newShelf_126 : decode cX5_newShelf 126 = .ok (.iconst 1, 1) := by decide +kernel
theorem dX5_newShelf_127 : decode cX5_newShelf 127 = .ok (.iadd, 1) := by decide +kernel
theorem dX5_newShelf_128 : decode cX5_newShelf 128 = .ok (.putfield 128, 3) := by decide +kernel
theorem dX5_newShelf_131 : decode cX5_newShelf 131 = .ok (.aload_n 0, 1) := by decide +kernel
theorem dX5_newShelf_132 : decode cX5_newShelf 132 = .ok (.getfield 128, 3) := by decide +kernel
theorem dX5_newShelf_135 : decode cX5_newShelf 135 = .ok (.iconst 1, 1) := by decide +kernel
theorem dX5_newShelf_136 : decode cX5_newShelf 136 = .ok (.isub, 1) := by decide +kernel
theorem dX5_newShelf_137 : decode cX5_newShelf 137 = .ok (.ireturn, 1) := by decide +kernel
theorem dX5_lays_0 : decode cX5_lays 0 = .ok (.aload_n 0, 1) := by decide +kernel
theorem dX5_lays_1 : decode cX5_lays 1 = .ok (.iconst 0, 1) := by decide +kernel
theorem dX5_lays_2 : decode cX5_lays 2 = .ok (.putfield 128, 3) := by decide +kernel
theorem dX5_lays_5 : decode cX5_lays 5 = .ok (.aload_n 0, 1) := by decide +kernel
theorem dX5_lays_6 : decode cX5_lays 6 = .ok (.iconst 0, 1) := by decide +kernel
theorem dX5_lays_7 : decode cX5_lays 7 = .ok (.putfield 138, 3) := by decide +kernel
theorem dX5_lays_10 : decode cX5_lays 10 = .ok (.iconst 0, 1) := by decide +kernel
theorem dX5_lays_11 : decode cX5_lays 11 = .ok (.istore_n 1, 1) := by decide +kernel
theorem dX5_lays_12 : decode cX5_lays 12 = .ok (.iload_n 1, 1) := by decide +kernel
theorem dX5_lays_13 : decode cX5_lays 13 = .ok (.aload_n 0, 1) := by decide +kernel
theorem dX5_lays_14 : decode cX5_lays 14 = .ok (.getfield 78, 3) := by decide +kernel
theorem dX5_lays_17 : decode cX5_lays 17 = .ok (.if_icmp .ge 79, 3) := by decide +kernel
theorem dX5_lays_20 : decode cX5_lays 20 = .ok (.aload_n 0, 1) := by decide +kernel
theorem dX5_lays_21 : decode cX5_lays 21 = .ok (.iload_n 1, 1) := by decide +kernel
theorem dX5_lays_22 : decode cX5_lays 22 = .ok (.invokevirtual 141, 3) := by decide +kernel
theorem dX5_lays_25 : decode cX5_lays 25 = .ok (.istore_n 2, 1) := by decide +kernel
theorem dX5_lays_26 : decode cX5_lays 26 = .ok (.iload_n 2, 1) := by decide +kernel
theorem dX5_lays_27 : decode cX5_lays 27 = .ok (.ifCond .ge 11, 3) := by decide +kernel
theorem dX5_lays_30 : decode cX5_lays 30 = .ok (.aload_n 0, 1) := by decide +kernel
theorem dX5_lays_31 : decode cX5_lays 31 = .ok (.iload_n 1, 1) := by decide +kernel
theorem dX5_lays_32 : decode cX5_lays 32 = .ok (.invokevirtual 144, 3) := by decide +kernel
theorem dX5_lays_35 : decode cX5_lays 35 = .ok (.goto 4, 3) := by decide +kernel
theorem dX5_lays_38 : decode cX5_lays 38 = .ok (.iload_n 2, 1) := by decide +kernel
theorem dX5_lays_39 : decode cX5_lays 39 = .ok (.istore_n 2, 1) := by decide +kernel
theorem dX5_lays_40 : decode cX5_lays 40 = .ok (.aload_n 0, 1) := by decide +kernel
theorem dX5_lays_41 : decode cX5_lays 41 = .ok (.getfield 59, 3) := by decide +kernel
theorem dX5_lays_44 : decode cX5_lays 44 = .ok (.iload_n 1, 1) := by decide +kernel
theorem dX5_lays_45 : decode cX5_lays 45 = .ok (.aload_n 0, 1) := by decide +kernel
theorem dX5_lays_46 : decode cX5_lays 46 = .ok (.getfield 44, 3) := by decide +kernel
theorem dX5_lays_49 : decode cX5_lays 49 = .ok (.iload_n 2, 1) := by decide +kernel
theorem dX5_lays_50 : decode cX5_lays 50 = .ok (.iaload, 1) := by decide +kernel
theorem dX5_lays_51 : decode cX5_lays 51 = .ok (.iastore, 1) := by decide +kernel
theorem dX5_lays_52 : decode cX5_lays 52 = .ok (.aload_n 0, 1) := by decide +kernel
theorem dX5_lays_53 : decode cX5_lays 53 = .ok (.getfield 62, 3) := by decide +kernel
theorem dX5_lays_56 : decode cX5_lays 56 = .ok (.iload_n 1, 1) := by decide +kernel
theorem dX5_lays_57 : decode cX5_lays 57 = .ok (.aload_n 0, 1) := by decide +kernel
theorem dX5_lays_58 : decode cX5_lays 58 = .ok (.getfield 53, 3) := by decide +kernel
theorem dX5_lays_61 : decode cX5_lays 61 = .ok (.iload_n 2, 1) := by decide +kernel
theorem dX5_lays_62 : decode cX5_lays 62 = .ok (.iaload, 1) := by decide +kernel
theorem dX5_lays_63 : decode cX5_lays 63 = .ok (.iastore, 1) := by decide +kernel
theorem dX5_lays_64 : decode cX5_lays 64 = .ok (.aload_n 0, 1) := by decide +kernel
theorem dX5_lays_65 : decode cX5_lays 65 = .ok (.getfield 65, 3) := by decide +kernel
theorem dX5_lays_68 : decode cX5_lays 68 = .ok (.iload_n 1, 1) := by decide +kernel
theorem dX5_lays_69 : decode cX5_lays 69 = .ok (.aload_n 0, 1) := by decide +kernel
theorem dX5_lays_70 : decode cX5_lays 70 = .ok (.getfield 47, 3) := by decide +kernel
theorem dX5_lays_73 : decode cX5_lays 73 = .ok (.iload_n 2, 1) := by decide +kernel
theorem dX5_lays_74 : decode cX5_lays 74 = .ok (.iaload, 1) := by decide +kernel
theorem dX5_lays_75 : decode cX5_lays 75 = .ok (.iastore, 1) := by decide +kernel
theorem dX5_lays_76 : decode cX5_lays 76 = .ok (.aload_n 0, 1) := by decide +kernel
theorem dX5_lays_77 : decode cX5_lays 77 = .ok (.getfield 53, 3) := by decide +kernel
theorem dX5_lays_80 : decode cX5_lays 80 = .ok (.iload_n 2, 1) := by decide +kernel
theorem dX5_lays_81 : decode cX5_lays 81 = .ok (.dup2, 1) := by decide +kernel
theorem dX5_lays_82 : decode cX5_lays 82 = .ok (.iaload, 1) := by decide +kernel
theorem dX5_lays_83 : decode cX5_lays 83 = .ok (.aload_n 0, 1) := by decide +kernel
theorem dX5_lays_84 : decode cX5_lays 84 = .ok (.iload_n 1, 1) := by decide +kernel
theorem dX5_lays_85 : decode cX5_lays 85 = .ok (.invokevirtual 135, 3) := by decide +kernel
theorem dX5_lays_88 : decode cX5_lays 88 = .ok (.iadd, 1) := by decide +kernel
theorem dX5_lays_89 : decode cX5_lays 89 = .ok (.iastore, 1) := by decide +kernel
theorem dX5_lays_90 : decode cX5_lays 90 = .ok (.iinc 1 1, 3) := by decide +kernel
theorem dX5_lays_93 : decode cX5_lays 93 = .ok (.goto (-81), 3) := by decide +kernel
theorem dX5_lays_96 : decode cX5_lays 96 = .ok (.return_, 1) := by decide +kernel
theorem dX5_sheets_0 : decode cX5_sheets 0 = .ok (.aload_n 0, 1) := by decide +kernel
theorem dX5_sheets_1 : decode cX5_sheets 1 = .ok (.iconst 0, 1) := by decide +kernel
theorem dX5_sheets_2 : decode cX5_sheets 2 = .ok (.invokevirtual 100, 3) := by decide +kernel
theorem dX5_sheets_5 : decode cX5_sheets 5 = .ok (.pop, 1) := by decide +kernel
theorem dX5_sheets_6 : decode cX5_sheets 6 = .ok (.aload_n 0, 1) := by decide +kernel
theorem dX5_sheets_7 : decode cX5_sheets 7 = .ok (.invokevirtual 147, 3) := by decide +kernel
theorem dX5_sheets_10 : decode cX5_sheets 10 = .ok (.aload_n 0, 1) := by decide +kernel
theorem dX5_sheets_11 : decode cX5_sheets 11 = .ok (.getfield 138, 3) := by decide +kernel
theorem dX5_sheets_14 : decode cX5_sheets 14 = .ok (.ireturn, 1) := by decide +kernel
theorem dX5_laid_0 : decode cX5_laid 0 = .ok (.aload_n 0, 1) := by decide +kernel
theorem dX5_laid_1 : decode cX5_laid 1 = .ok (.aload_n 0, 1) := by decide +kernel
theorem dX5_laid_2 : decode cX5_laid 2 = .ok (.iload_n 1, 1) := by decide +kernel
theorem dX5_laid_3 : decode cX5_laid 3 = .ok (.invokevirtual 122, 3) := by decide +kernel
theorem dX5_laid_6 : decode cX5_laid 6 = .ok (.ifCond .ne 7, 3) := by decide +kernel
theorem dX5_laid_9 : decode cX5_laid 9 = .ok (.iconst 1, 1) := by decide +kernel
theorem dX5_laid_10 : decode cX5_laid 10 = .ok (.goto 18, 3) := by decide +kernel
theorem dX5_laid_13 : decode cX5_laid 13 = .ok (.aload_n 0, 1) := by decide +kernel
theorem dX5_laid_14 : decode cX5_laid 14 = .ok (.iload_n 2, 1) := by decide +kernel
theorem dX5_laid_15 : decode cX5_laid 15 = .ok (.iconst 0, 1) := by decide +kernel
theorem dX5_laid_16 : decode cX5_laid 16 = .ok (.iconst 2, 1) := by decide +kernel
theorem dX5_laid_17 : decode cX5_laid 17 = .ok (.invokevirtual 74, 3) := by decide +kernel
theorem dX5_laid_20 : decode cX5_laid 20 = .ok (.ifCond .eq 7, 3) := by decide +kernel
theorem dX5_laid_23 : decode cX5_laid 23 = .ok (.iconst 0, 1) := by decide +kernel
theorem dX5_laid_24 : decode cX5_laid 24 = .ok (.goto 4, 3) := by decide +kernel
theorem dX5_laid_27 : decode cX5_laid 27 = .ok (.iconst 2, 1) := by decide +kernel
theorem dX5_laid_28 : decode cX5_laid 28 = .ok (.invokevirtual 100, 3) := by decide +kernel
theorem dX5_laid_31 : decode cX5_laid 31 = .ok (.ifCond .eq 5, 3) := by decide +kernel
theorem dX5_laid_34 : decode cX5_laid 34 = .ok (.iconst (-1), 1) := by decide +kernel
theorem dX5_laid_35 : decode cX5_laid 35 = .ok (.ireturn, 1) := by decide +kernel
theorem dX5_laid_36 : decode cX5_laid 36 = .ok (.aload_n 0, 1) := by decide +kernel
theorem dX5_laid_37 : decode cX5_laid 37 = .ok (.invokevirtual 147, 3) := by decide +kernel
theorem dX5_laid_40 : decode cX5_laid 40 = .ok (.iload_n 2, 1) := by decide +kernel
theorem dX5_laid_41 : decode cX5_laid 41 = .ok (.ifCond .ne 12, 3) := by decide +kernel
theorem dX5_laid_44 : decode cX5_laid 44 = .ok (.aload_n 0, 1) := by decide +kernel
theorem dX5_laid_45 : decode cX5_laid 45 = .ok (.getfield 59, 3) := by decide +kernel
theorem dX5_laid_48 : decode cX5_laid 48 = .ok (.iload_n 1, 1) := by decide +kernel
theorem dX5_laid_49 : decode cX5_laid 49 = .ok (.iaload, 1) := by decide +kernel
theorem dX5_laid_50 : decode cX5_laid 50 = .ok (.goto 23, 3) := by decide +kernel
theorem dX5_laid_53 : decode cX5_laid 53 = .ok (.iload_n 2, 1) := by decide +kernel
theorem dX5_laid_54 : decode cX5_laid 54 = .ok (.iconst 1, 1) := by decide +kernel
theorem dX5_laid_55 : decode cX5_laid 55 = .ok (.if_icmp .ne 12, 3) := by decide +kernel
theorem dX5_laid_58 : decode cX5_laid 58 = .ok (.aload_n 0, 1) := by decide +kernel
theorem dX5_laid_59 : decode cX5_laid 59 = .ok (.getfield 62, 3) := by decide +kernel
theorem dX5_laid_62 : decode cX5_laid 62 = .ok (.iload_n 1, 1) := by decide +kernel
theorem dX5_laid_63 : decode cX5_laid 63 = .ok (.iaload, 1) := by decide +kernel
theorem dX5_laid_64 : decode cX5_laid 64 = .ok (.goto 9, 3) := by decide +kernel
theorem dX5_laid_67 : decode cX5_laid 67 = .ok (.aload_n 0, 1) := by decide +kernel
theorem dX5_laid_68 : decode cX5_laid 68 = .ok (.getfield 65, 3) := by decide +kernel
theorem dX5_laid_71 : decode cX5_laid 71 = .ok (.iload_n 1, 1) := by decide +kernel
theorem dX5_laid_72 : decode cX5_laid 72 = .ok (.iaload, 1) := by decide +kernel
theorem dX5_laid_73 : decode cX5_laid 73 = .ok (.ireturn, 1) := by decide +kernel
theorem dX5_stepOf_0 : decode cX5_stepOf 0 = .ok (.iconst (-1), 1) := by decide +kernel
theorem dX5_stepOf_1 : decode cX5_stepOf 1 = .ok (.istore_n 2, 1) := by decide +kernel
theorem dX5_stepOf_2 : decode cX5_stepOf 2 = .ok (.iconst 0, 1) := by decide +kernel
theorem dX5_stepOf_3 : decode cX5_stepOf 3 = .ok (.istore_n 3, 1) := by decide +kernel
theorem dX5_stepOf_4 : decode cX5_stepOf 4 = .ok (.iload_n 3, 1) := by decide +kernel
theorem dX5_stepOf_5 : decode cX5_stepOf 5 = .ok (.aload_n 0, 1) := by decide +kernel
theorem dX5_stepOf_6 : decode cX5_stepOf 6 = .ok (.getfield 85, 3) := by decide +kernel
theorem dX5_stepOf_9 : decode cX5_stepOf 9 = .ok (.if_icmp .ge 25, 3) := by decide +kernel
theorem dX5_stepOf_12 : decode cX5_stepOf 12 = .ok (.aload_n 0, 1) := by decide +kernel
theorem dX5_stepOf_13 : decode cX5_stepOf 13 = .ok (.getfield 41, 3) := by decide +kernel
theorem dX5_stepOf_16 : decode cX5_stepOf 16 = .ok (.iload_n 3, 1) := by decide +kernel
theorem dX5_stepOf_17 : decode cX5_stepOf 17 = .ok (.iaload, 1) := by decide +kernel
theorem dX5_stepOf_18 : decode cX5_stepOf 18 = .ok (.iload_n 1, 1) := by decide +kernel
theorem dX5_stepOf_19 : decode cX5_stepOf 19 = .ok (.if_icmp .ne 7, 3) := by decide +kernel
theorem dX5_stepOf_22 : decode cX5_stepOf 22 = .ok (.iload_n 3, 1) := by decide +kernel
theorem dX5_stepOf_23 : decode cX5_stepOf 23 = .ok (.goto 4, 3) := by decide +kernel
theorem dX5_stepOf_26 : decode cX5_stepOf 26 = .ok (.iload_n 2, 1) := by decide +kernel
theorem dX5_stepOf_27 : decode cX5_stepOf 27 = .ok (.istore_n 2, 1) := by decide +kernel
theorem dX5_stepOf_28 : decode cX5_stepOf 28 = .ok (.iinc 3 1, 3) := by decide +kernel
theorem dX5_stepOf_31 : decode cX5_stepOf 31 = .ok (.goto (-27), 3) := by decide +kernel
theorem dX5_stepOf_34 : decode cX5_stepOf 34 = .ok (.iload_n 2, 1) := by decide +kernel
theorem dX5_stepOf_35 : decode cX5_stepOf 35 = .ok (.ireturn, 1) := by decide +kernel
theorem dX5_canGlue_0 : decode cX5_canGlue 0 = .ok (.aload_n 0, 1) := by decide +kernel
theorem dX5_canGlue_1 : decode cX5_canGlue 1 = .ok (.getfield 23, 3) := by decide +kernel
theorem dX5_canGlue_4 : decode cX5_canGlue 4 = .ok (.iload_n 1, 1) := by decide +kernel
theorem dX5_canGlue_5 : decode cX5_canGlue 5 = .ok (.iaload, 1) := by decide +kernel
theorem dX5_canGlue_6 : decode cX5_canGlue 6 = .ok (.ifCond .ne 7, 3) := by decide +kernel
theorem dX5_canGlue_9 : decode cX5_canGlue 9 = .ok (.iconst 1, 1) := by decide +kernel
theorem dX5_canGlue_10 : decode cX5_canGlue 10 = .ok (.goto 4, 3) := by decide +kernel
theorem dX5_canGlue_13 : decode cX5_canGlue 13 = .ok (.iconst 0, 1) := by decide +kernel
theorem dX5_canGlue_14 : decode cX5_canGlue 14 = .ok (.istore_n 2, 1) := by decide +kernel
theorem dX5_canGlue_15 : decode cX5_canGlue 15 = .ok (.aload_n 0, 1) := by decide +kernel
theorem dX5_canGlue_16 : decode cX5_canGlue 16 = .ok (.iload_n 1, 1) := by decide +kernel
theorem dX5_canGlue_17 : decode cX5_canGlue 17 = .ok (.invokevirtual 150, 3) := by decide +kernel
theorem dX5_canGlue_20 : decode cX5_canGlue 20 = .ok (.ifCond .ge 7, 3) := by decide +kernel
theorem dX5_canGlue_23 : decode cX5_canGlue 23 = .ok (.iconst 1, 1) := by decide +kernel
theorem dX5_canGlue_24 : decode cX5_canGlue 24 = .ok (.goto 4, 3) := by decide +kernel
theorem dX5_canGlue_27 : decode cX5_canGlue 27 = .ok (.iconst 0, 1) := by decide +kernel
theorem dX5_canGlue_28 : decode cX5_canGlue 28 = .ok (.istore_n 3, 1) := by decide +kernel
theorem dX5_canGlue_29 : decode cX5_canGlue 29 = .ok (.iconst 0, 1) := by decide +kernel
theorem dX5_canGlue_30 : decode cX5_canGlue 30 = .ok (.istore 4, 2) := by decide +kernel
theorem dX5_canGlue_32 : decode cX5_canGlue 32 = .ok (.iload 4, 2) := by decide +kernel
theorem dX5_canGlue_34 : decode cX5_canGlue 34 = .ok (.aload_n 0, 1) := by decide +kernel
theorem dX5_canGlue_35 : decode cX5_canGlue 35 = .ok (.getfield 85, 3) := by decide +kernel
theorem dX5_canGlue_38 : decode cX5_canGlue 38 = .ok (.if_icmp .ge 101, 3) := by decide +kernel
theorem dX5_canGlue_41 : decode cX5_canGlue 41 = .ok (.aload_n 0, 1) := by decide +kernel
theorem dX5_canGlue_42 : decode cX5_canGlue 42 = .ok (.getfield 41, 3) := by decide +kernel
theorem dX5_canGlue_45 : decode cX5_canGlue 45 = .ok (.iload 4, 2) := by decide +kernel
theorem dX5_canGlue_47 : decode cX5_canGlue 47 = .ok (.iaload, 1) := by decide +kernel
theorem dX5_canGlue_48 : decode cX5_canGlue 48 = .ok (.istore 5, 2) := by decide +kernel
theorem dX5_canGlue_50 : decode cX5_canGlue 50 = .ok (.iload_n 2, 1) := by decide +kernel
theorem dX5_canGlue_51 : decode cX5_canGlue 51 = .ok (.aload_n 0, 1) := by decide +kernel
theorem dX5_canGlue_52 : decode cX5_canGlue 52 = .ok (.getfield 23, 3) := by decide +kernel
theorem dX5_canGlue_55 : decode cX5_canGlue 55 = .ok (.iload 5, 2) := by decide +kernel
theorem dX5_canGlue_57 : decode cX5_canGlue 57 = .ok (.iaload, 1) := by decide +kernel
theorem dX5_canGlue_58 : decode cX5_canGlue 58 = .ok (.aload_n 0, 1) := by decide +kernel
theorem dX5_canGlue_59 : decode cX5_canGlue 59 = .ok (.getfield 7, 3) := by decide +kernel
theorem dX5_canGlue_62 : decode cX5_canGlue 62 = .ok (.aload_n 0, 1) := by decide +kernel
theorem dX5_canGlue_63 : decode cX5_canGlue 63 = .ok (.getfield 23, 3) := by decide +kernel
theorem dX5_canGlue_66 : decode cX5_canGlue 66 = .ok (.iload_n 1, 1) := by decide +kernel
theorem dX5_canGlue_67 : decode cX5_canGlue 67 = .ok (.iaload, 1) := by decide +kernel
theorem dX5_canGlue_68 : decode cX5_canGlue 68 = .ok (.iaload, 1) := by decide +kernel
theorem dX5_canGlue_69 : decode cX5_canGlue 69 = .ok (.if_icmp .ne 7, 3) := by decide +kernel
theorem dX5_canGlue_72 : decode cX5_canGlue 72 = .ok (.iconst 1, 1) := by decide +kernel
theorem dX5_canGlue_73 : decode cX5_canGlue 73 = .ok (.goto 4, 3) := by decide +kernel
theorem dX5_canGlue_76 : decode cX5_canGlue 76 = .ok (.iconst 0, 1) := by decide +kernel
theorem dX5_canGlue_77 : decode cX5_canGlue 77 = .ok (.ior, 1) := by decide +kernel
theorem dX5_canGlue_78 : decode cX5_canGlue 78 = .ok (.istore_n 2, 1) := by decide +kernel
theorem dX5_canGlue_79 : decode cX5_canGlue 79 = .ok (.iload_n 3, 1) := by decide +kernel
theorem dX5_canGlue_80 : decode cX5_canGlue 80 = .ok (.aload_n 0, 1) := by decide +kernel
theorem dX5_canGlue_81 : decode cX5_canGlue 81 = .ok (.iload_n 1, 1) := by decide +kernel
theorem dX5_canGlue_82 : decode cX5_canGlue 82 = .ok (.iload 5, 2) := by decide +kernel
theorem dX5_canGlue_84 : decode cX5_canGlue 84 = .ok (.invokevirtual 112, 3) := by decide +kernel
theorem dX5_canGlue_87 : decode cX5_canGlue 87 = .ok (.ifCond .eq 39, 3) := by decide +kernel
theorem dX5_canGlue_90 : decode cX5_canGlue 90 = .ok (.aload_n 0, 1) := by decide +kernel
theorem dX5_canGlue_91 : decode cX5_canGlue 91 = .ok (.getfield 26, 3) := by decide +kernel
theorem dX5_canGlue_94 : decode cX5_canGlue 94 = .ok (.iload_n 1, 1) := by decide +kernel
theorem dX5_canGlue_95 : decode cX5_canGlue 95 = .ok (.iaload, 1) := by decide +kernel
theorem dX5_canGlue_96 : decode cX5_canGlue 96 = .ok (.aload_n 0, 1) := by decide +kernel
theorem dX5_canGlue_97 : decode cX5_canGlue 97 = .ok (.iload 5, 2) := by decide +kernel
theorem dX5_canGlue_99 : decode cX5_canGlue 99 = .ok (.sipush 180, 3) := by decide +kernel
theorem dX5_canGlue_102 : decode cX5_canGlue 102 = .ok (.invokevirtual 116, 3) := by decide +kernel
theorem dX5_canGlue_105 : decode cX5_canGlue 105 = .ok (.if_icmp .lt 21, 3) := by decide +kernel
theorem dX5_canGlue_108 : decode cX5_canGlue 108 = .ok (.aload_n 0, 1) := by decide +kernel
theorem dX5_canGlue_109 : decode cX5_canGlue 109 = .ok (.getfield 26, 3) := by decide +kernel
theorem dX5_canGlue_112 : decode cX5_canGlue 112 = .ok (.iload_n 1, 1) := by decide +kernel
theorem dX5_canGlue_113 : decode cX5_canGlue 113 = .ok (.iaload, 1) := by decide +kernel
theorem dX5_canGlue_114 : decode cX5_canGlue 114 = .ok (.aload_n 0, 1) := by decide +kernel
theorem dX5_canGlue_115 : decode cX5_canGlue 115 = .ok (.iload 5, 2) := by decide +kernel
theorem dX5_canGlue_117 : decode cX5_canGlue 117 = .ok (.sipush 180, 3) := by decide +kernel
theorem dX5_canGlue_120 : decode cX5_canGlue 120 = .ok (.invokevirtual 119, 3) := by decide +kernel
theorem dX5_canGlue_123 : decode cX5_canGlue 123 = .ok (.if_icmp .le 7, 3) := by decide +kernel
theorem dX5_canGlue_126 : decode cX5_canGlue 126 = .ok (.iconst 1, 1) := by decide +kernel
theorem dX5_canGlue_127 : decode cX5_canGlue 127 = .ok (.goto 4, 3) := by decide +kernel
theorem dX5_canGlue_130 : decode cX5_canGlue 130 = .ok (.iconst 0, 1) := by decide +kernel
theorem dX5_canGlue_131 : decode cX5_canGlue 131 = .ok (.iand, 1) := by decide +kernel
theorem dX5_canGlue_132 : decode cX5_canGlue 132 = .ok (.istore_n 3, 1) := by decide +kernel
theorem dX5_canGlue_133 : decode cX5_canGlue 133 = .ok (.iinc 4 1, 3) := by decide +kernel
theorem dX5_canGlue_136 : decode cX5_canGlue 136 = .ok (.goto (-104), 3) := by decide +kernel
theorem dX5_canGlue_139 : decode cX5_canGlue 139 = .ok (.iload_n 2, 1) := by decide +kernel
theorem dX5_canGlue_140 : decode cX5_canGlue 140 = .ok (.ifCond .eq 11, 3) := by decide +kernel
theorem dX5_canGlue_143 : decode cX5_canGlue 143 = .ok (.iload_n 3, 1) := by decide +kernel
theorem dX5_canGlue_144 : decode cX5_canGlue 144 = .ok (.ifCond .eq 7, 3) := by decide +kernel
theorem dX5_canGlue_147 : decode cX5_canGlue 147 = .ok (.iconst 1, 1) := by decide +kernel
theorem dX5_canGlue_148 : decode cX5_canGlue 148 = .ok (.goto 4, 3) := by decide +kernel
theorem dX5_canGlue_151 : decode cX5_canGlue 151 = .ok (.iconst 0, 1) := by decide +kernel
theorem dX5_canGlue_152 : decode cX5_canGlue 152 = .ok (.ireturn, 1) := by decide +kernel
theorem dX5_glue_0 : decode cX5_glue 0 = .ok (.aload_n 0, 1) := by decide +kernel
theorem dX5_glue_1 : decode cX5_glue 1 = .ok (.aload_n 0, 1) := by decide +kernel
theorem dX5_glue_2 : decode cX5_glue 2 = .ok (.iload_n 1, 1) := by decide +kernel
theorem dX5_glue_3 : decode cX5_glue 3 = .ok (.invokevirtual 122, 3) := by decide +kernel
theorem dX5_glue_6 : decode cX5_glue 6 = .ok (.ifCond .ne 7, 3) := by decide +kernel
theorem dX5_glue_9 : decode cX5_glue 9 = .ok (.iconst 1, 1) := by decide +kernel
theorem dX5_glue_10 : decode cX5_glue 10 = .ok (.goto 16, 3) := by decide +kernel
theorem dX5_glue_13 : decode cX5_glue 13 = .ok (.aload_n 0, 1) := by decide +kernel
theorem dX5_glue_14 : decode cX5_glue 14 = .ok (.iload_n 1, 1) := by decide +kernel
theorem dX5_glue_15 : decode cX5_glue 15 = .ok (.invokevirtual 153, 3) := by decide +kernel
theorem dX5_glue_18 : decode cX5_glue 18 = .ok (.ifCond .eq 7, 3) := by decide +kernel
theorem dX5_glue_21 : decode cX5_glue 21 = .ok (.iconst 0, 1) := by decide +kernel
theorem dX5_glue_22 : decode cX5_glue 22 = .ok (.goto 4, 3) := by decide +kernel
theorem dX5_glue_25 : decode cX5_glue 25 = .ok (.iconst 2, 1) := by decide +kernel
theorem dX5_glue_26 : decode cX5_glue 26 = .ok (.invokevirtual 100, 3) := by decide +kernel
theorem dX5_glue_29 : decode cX5_glue 29 = .ok (.ifCond .eq 5, 3) := by decide +kernel
theorem dX5_glue_32 : decode cX5_glue 32 = .ok (.iconst (-1), 1) := by decide +kernel
theorem dX5_glue_33 : decode cX5_glue 33 = .ok (.ireturn, 1) := by decide +kernel
theorem dX5_glue_34 : decode cX5_glue 34 = .ok (.aload_n 0, 1) := by decide +kernel
theorem dX5_glue_35 : decode cX5_glue 35 = .ok (.getfield 41, 3) := by decide +kernel
theorem dX5_glue_38 : decode cX5_glue 38 = .ok (.aload_n 0, 1) := by decide +kernel
theorem dX5_glue_39 : decode cX5_glue 39 = .ok (.getfield 85, 3) := by decide +kernel
theorem dX5_glue_42 : decode cX5_glue 42 = .ok (.iload_n 1, 1) := by decide +kernel
theorem dX5_glue_43 : decode cX5_glue 43 = .ok (.iastore, 1) := by decide +kernel
theorem dX5_glue_44 : decode cX5_glue 44 = .ok (.aload_n 0, 1) := by decide +kernel
theorem dX5_glue_45 : decode cX5_glue 45 = .ok (.dup, 1) := by decide +kernel
theorem dX5_glue_46 : decode cX5_glue 46 = .ok (.getfield 85, 3) := by decide +kernel
theorem dX5_glue_49 : decode cX5_glue 49 = .ok (.iconst 1, 1) := by decide +kernel
theorem dX5_glue_50 : decode cX5_glue 50 = .ok (.iadd, 1) := by decide +kernel
theorem dX5_glue_51 : decode cX5_glue 51 = .ok (.putfield 85, 3) := by decide +kernel
theorem dX5_glue_54 : decode cX5_glue 54 = .ok (.aload_n 0, 1) := by decide +kernel
theorem dX5_glue_55 : decode cX5_glue 55 = .ok (.getfield 85, 3) := by decide +kernel
theorem dX5_glue_58 : decode cX5_glue 58 = .ok (.ireturn, 1) := by decide +kernel
theorem dX5_unglue_0 : decode cX5_unglue 0 = .ok (.aload_n 0, 1) := by decide +kernel
theorem dX5_unglue_1 : decode cX5_unglue 1 = .ok (.aload_n 0, 1) := by decide +kernel
theorem dX5_unglue_2 : decode cX5_unglue 2 = .ok (.getfield 85, 3) := by decide +kernel
theorem dX5_unglue_5 : decode cX5_unglue 5 = .ok (.ifCond .ne 7, 3) := by decide +kernel
theorem dX5_unglue_8 : decode cX5_unglue 8 = .ok (.iconst 1, 1) := by decide +kernel
theorem dX5_unglue_9 : decode cX5_unglue 9 = .ok (.goto 4, 3) := by decide +kernel
theorem dX5_unglue_12 : decode cX5_unglue 12 = .ok (.iconst 0, 1) := by decide +kernel
theorem dX5_unglue_13 : decode cX5_unglue 13 = .ok (.invokevirtual 100, 3) := by decide +kernel
theorem dX5_unglue_16 : decode cX5_unglue 16 = .ok (.ifCond .eq 5, 3) := by decide +kernel
theorem dX5_unglue_19 : decode cX5_unglue 19 = .ok (.iconst (-1), 1) := by decide +kernel
theorem dX5_unglue_20 : decode cX5_unglue 20 = .ok (.ireturn, 1) := by decide +kernel
theorem dX5_unglue_21 : decode cX5_unglue 21 = .ok (.aload_n 0, 1) := by decide +kernel
theorem dX5_unglue_22 : decode cX5_unglue 22 = .ok (.dup, 1) := by decide +kernel
theorem dX5_unglue_23 : decode cX5_unglue 23 = .ok (.getfield 85, 3) := by decide +kernel
theorem dX5_unglue_26 : decode cX5_unglue 26 = .ok (.iconst 1, 1) := by decide +kernel
theorem dX5_unglue_27 : decode cX5_unglue 27 = .ok (.isub, 1) := by decide +kernel
theorem dX5_unglue_28 : decode cX5_unglue 28 = .ok (.putfield 85, 3) := by decide +kernel
theorem dX5_unglue_31 : decode cX5_unglue 31 = .ok (.aload_n 0, 1) := by decide +kernel
theorem dX5_unglue_32 : decode cX5_unglue 32 = .ok (.getfield 41, 3) := by decide +kernel
theorem dX5_unglue_35 : decode cX5_unglue 35 = .ok (.aload_n 0, 1) := by decide +kernel
theorem dX5_unglue_36 : decode cX5_unglue 36 = .ok (.getfield 85, 3) := by decide +kernel
theorem dX5_unglue_39 : decode cX5_unglue 39 = .ok (.iaload, 1) := by decide +kernel
theorem dX5_unglue_40 : decode cX5_unglue 40 = .ok (.ireturn, 1) := by decide +kernel
theorem dX5_glued_0 : decode cX5_glued 0 = .ok (.aload_n 0, 1) := by decide +kernel
theorem dX5_glued_1 : decode cX5_glued 1 = .ok (.iload_n 1, 1) := by decide +kernel
theorem dX5_glued_2 : decode cX5_glued 2 = .ok (.ifCond .ge 7, 3) := by decide +kernel
theorem dX5_glued_5 : decode cX5_glued 5 = .ok (.iconst 1, 1) := by decide +kernel
theorem dX5_glued_6 : decode cX5_glued 6 = .ok (.goto 4, 3) := by decide +kernel
theorem dX5_glued_9 : decode cX5_glued 9 = .ok (.iconst 0, 1) := by decide +kernel
theorem dX5_glued_10 : decode cX5_glued 10 = .ok (.invokevirtual 100, 3) := by decide +kernel
theorem dX5_glued_13 : decode cX5_glued 13 = .ok (.ifCond .eq 5, 3) := by decide +kernel
theorem dX5_glued_16 : decode cX5_glued 16 = .ok (.iconst (-1), 1) := by decide +kernel
theorem dX5_glued_17 : decode cX5_glued 17 = .ok (.ireturn, 1) := by decide +kernel
theorem dX5_glued_18 : decode cX5_glued 18 = .ok (.iload_n 1, 1) := by decide +kernel
theorem dX5_glued_19 : decode cX5_glued 19 = .ok (.aload_n 0, 1) := by decide +kernel
theorem dX5_glued_20 : decode cX5_glued 20 = .ok (.getfield 85, 3) := by decide +kernel
theorem dX5_glued_23 : decode cX5_glued 23 = .ok (.if_icmp .ge 12, 3) := by decide +kernel
theorem dX5_glued_26 : decode cX5_glued 26 = .ok (.aload_n 0, 1) := by decide +kernel
theorem dX5_glued_27 : decode cX5_glued 27 = .ok (.getfield 41, 3) := by decide +kernel
theorem dX5_glued_30 : decode cX5_glued 30 = .ok (.iload_n 1, 1) := by decide +kernel
theorem dX5_glued_31 : decode cX5_glued 31 = .ok (.iaload, 1) := by decide +kernel
theorem dX5_glued_32 : decode cX5_glued 32 = .ok (.goto 4, 3) := by decide +kernel
theorem dX5_glued_35 : decode cX5_glued 35 = .ok (.iconst (-1), 1) := by decide +kernel
theorem dX5_glued_36 : decode cX5_glued 36 = .ok (.ireturn, 1) := by decide +kernel
theorem dX5_resize_0 : decode cX5_resize 0 = .ok (.aload_n 0, 1) := by decide +kernel
theorem dX5_resize_1 : decode cX5_resize 1 = .ok (.aload_n 0, 1) := by decide +kernel
theorem dX5_resize_2 : decode cX5_resize 2 = .ok (.iload_n 1, 1) := by decide +kernel
theorem dX5_resize_3 : decode cX5_resize 3 = .ok (.invokevirtual 122, 3) := by decide +kernel
theorem dX5_resize_6 : decode cX5_resize 6 = .ok (.ifCond .ne 7, 3) := by decide +kernel
theorem dX5_resize_9 : decode cX5_resize 9 = .ok (.iconst 1, 1) := by decide +kernel
theorem dX5_resize_10 : decode cX5_resize 10 = .ok (.goto 19, 3) := by decide +kernel
theorem dX5_resize_13 : decode cX5_resize 13 = .ok (.aload_n 0, 1) := by decide +kernel
theorem dX5_resize_14 : decode cX5_resize 14 = .ok (.iload_n 2, 1) := by decide +kernel
theorem dX5_resize_15 : decode cX5_resize 15 = .ok (.iconst 1, 1) := by decide +kernel
theorem dX5_resize_16 : decode cX5_resize 16 = .ok (.bipush 30, 2) := by decide +kernel
theorem dX5_resize_18 : decode cX5_resize 18 = .ok (.invokevirtual 74, 3) := by decide +kernel
theorem dX5_resize_21 : decode cX5_resize 21 = .ok (.ifCond .eq 7, 3) := by decide +kernel
theorem dX5_resize_24 : decode cX5_resize 24 = .ok (.iconst 0, 1) := by decide +kernel
theorem dX5_resize_25 : decode cX5_resize 25 = .ok (.goto 4, 3) := by decide +kernel
theorem dX5_resize_28 : decode cX5_resize 28 = .ok (.iconst 2, 1) := by decide +kernel
theorem dX5_resize_29 : decode cX5_resize 29 = .ok (.invokevirtual 100, 3) := by decide +kernel
theorem dX5_resize_32 : decode cX5_resize 32 = .ok (.ifCond .eq 5, 3) := by decide +kernel
theorem dX5_resize_35 : decode cX5_resize 35 = .ok (.iconst (-1), 1) := by decide +kernel
theorem dX5_resize_36 : decode cX5_resize 36 = .ok (.ireturn, 1) := by decide +kernel
theorem dX5_resize_37 : decode cX5_resize 37 = .ok (.aload_n 0, 1) := by decide +kernel
theorem dX5_resize_38 : decode cX5_resize 38 = .ok (.getfield 29, 3) := by decide +kernel
theorem dX5_resize_41 : decode cX5_resize 41 = .ok (.iload_n 1, 1) := by decide +kernel
theorem dX5_resize_42 : decode cX5_resize 42 = .ok (.iload_n 2, 1) := by decide +kernel
theorem dX5_resize_43 : decode cX5_resize 43 = .ok (.iastore, 1) := by decide +kernel
theorem dX5_resize_44 : decode cX5_resize 44 = .ok (.aload_n 0, 1) := by decide +kernel
theorem dX5_resize_45 : decode cX5_resize 45 = .ok (.iload_n 1, 1) := by decide +kernel
theorem dX5_resize_46 : decode cX5_resize 46 = .ok (.invokevirtual 150, 3) := by decide +kernel
theorem dX5_resize_49 : decode cX5_resize 49 = .ok (.istore_n 3, 1) := by decide +kernel
theorem dX5_resize_50 : decode cX5_resize 50 = .ok (.iload_n 3, 1) := by decide +kernel
theorem dX5_resize_51 : decode cX5_resize 51 = .ok (.ifCond .ge 7, 3) := by decide +kernel
theorem dX5_resize_54 : decode cX5_resize 54 = .ok (.iconst 0, 1) := by decide +kernel
theorem dX5_resize_55 : decode cX5_resize 55 = .ok (.goto 9, 3) := by decide +kernel
theorem dX5_resize_58 : decode cX5_resize 58 = .ok (.aload_n 0, 1) := by decide +kernel
theorem dX5_resize_59 : decode cX5_resize 59 = .ok (.getfield 85, 3) := by decide +kernel
theorem dX5_resize_62 : decode cX5_resize 62 = .ok (.iload_n 3, 1) := by decide +kernel
theorem dX5_resize_63 : decode cX5_resize 63 = .ok (.isub, 1) := by decide +kernel
theorem dX5_resize_64 : decode cX5_resize 64 = .ok (.istore 4, 2) := by decide +kernel
theorem dX5_resize_66 : decode cX5_resize 66 = .ok (.aload_n 0, 1) := by decide +kernel
theorem dX5_resize_67 : decode cX5_resize 67 = .ok (.dup, 1) := by decide +kernel
theorem dX5_resize_68 : decode cX5_resize 68 = .ok (.getfield 85, 3) := by decide +kernel
theorem dX5_resize_71 : decode cX5_resize 71 = .ok (.iload 4, 2) := by decide +kernel
theorem dX5_resize_73 : decode cX5_resize 73 = .ok (.isub, 1) := by decide +kernel
theorem dX5_resize_74 : decode cX5_resize 74 = .ok (.putfield 85, 3) := by decide +kernel
theorem dX5_resize_77 : decode cX5_resize 77 = .ok (.iload 4, 2) := by decide +kernel
theorem dX5_resize_79 : decode cX5_resize 79 = .ok (.ireturn, 1) := by decide +kernel
theorem dX5_isBound_0 : decode cX5_isBound 0 = .ok (.aload_n 0, 1) := by decide +kernel
theorem dX5_isBound_1 : decode cX5_isBound 1 = .ok (.iconst 0, 1) := by decide +kernel
theorem dX5_isBound_2 : decode cX5_isBound 2 = .ok (.invokevirtual 100, 3) := by decide +kernel
theorem dX5_isBound_5 : decode cX5_isBound 5 = .ok (.pop, 1) := by decide +kernel
theorem dX5_isBound_6 : decode cX5_isBound 6 = .ok (.aload_n 0, 1) := by decide +kernel
theorem dX5_isBound_7 : decode cX5_isBound 7 = .ok (.invokevirtual 96, 3) := by decide +kernel
theorem dX5_isBound_10 : decode cX5_isBound 10 = .ok (.ireturn, 1) := by decide +kernel
theorem dX5_digits_0 : decode cX5_digits 0 = .ok (.iload_n 1, 1) := by decide +kernel
theorem dX5_digits_1 : decode cX5_digits 1 = .ok (.bipush 10, 2) := by decide +kernel
theorem dX5_digits_3 : decode cX5_digits 3 = .ok (.if_icmp .ge 7, 3) := by decide +kernel
theorem dX5_digits_6 : decode cX5_digits 6 = .ok (.iconst 1, 1) := by decide +kernel
theorem dX5_digits_7 : decode cX5_digits 7 = .ok (.goto 4, 3) := by decide +kernel
theorem dX5_digits_10 : decode cX5_digits 10 = .ok (.iconst 2, 1) := by decide +kernel
theorem dX5_digits_11 : decode cX5_digits 11 = .ok (.ireturn, 1) := by decide +kernel
theorem dX5_digit_0 : decode cX5_digit 0 = .ok (.bipush 48, 2) := by decide +kernel
theorem dX5_digit_2 : decode cX5_digit 2 = .ok (.aload_n 0, 1) := by decide +kernel
theorem dX5_digit_3 : decode cX5_digit 3 = .ok (.iload_n 1, 1) := by decide +kernel
theorem dX5_digit_4 : decode cX5_digit 4 = .ok (.invokevirtual 156, 3) := by decide +kernel
theorem dX5_digit_7 : decode cX5_digit 7 = .ok (.iconst 2, 1) := by decide +kernel
theorem dX5_digit_8 : decode cX5_digit 8 = .ok (.if_icmp .ne 14, 3) := by decide +kernel
theorem dX5_digit_11 : decode cX5_digit 11 = .ok (.iload_n 2, 1) := by decide +kernel
theorem dX5_digit_12 : decode cX5_digit 12 = .ok (.ifCond .ne 10, 3) := by decide +kernel
theorem dX5_digit_15 : decode cX5_digit 15 = .ok (.iload_n 1, 1) := by decide +kernel
theorem dX5_digit_16 : decode cX5_digit 16 = .ok (.bipush 10, 2) := by decide +kernel
theorem dX5_digit_18 : decode cX5_digit 18 = .ok (.idiv, 1) := by decide +kernel
theorem dX5_digit_19 : decode cX5_digit 19 = .ok (.goto 7, 3) := by decide +kernel
theorem dX5_digit_22 : decode cX5_digit 22 = .ok (.iload_n 1, 1) := by decide +kernel
theorem dX5_digit_23 : decode cX5_digit 23 = .ok (.bipush 10, 2) := by decide +kernel
theorem dX5_digit_25 : decode cX5_digit 25 = .ok (.irem, 1) := by decide +kernel
theorem dX5_digit_26 : decode cX5_digit 26 = .ok (.iadd, 1) := by decide +kernel
theorem dX5_digit_27 : decode cX5_digit 27 = .ok (.i2c, 1) := by decide +kernel
theorem dX5_digit_28 : decode cX5_digit 28 = .ok (.ireturn, 1) := by decide +kernel
theorem dX5_flat_0 : decode cX5_flat 0 = .ok (.iload_n 1, 1) := by decide +kernel
theorem dX5_flat_1 : decode cX5_flat 1 = .ok (.ifCond .ge 8, 3) := by decide +kernel
theorem dX5_flat_4 : decode cX5_flat 4 = .ok (.iload_n 1, 1) := by decide +kernel
theorem dX5_flat_5 : decode cX5_flat 5 = .ok (.ineg, 1) := by decide +kernel
theorem dX5_flat_6 : decode cX5_flat 6 = .ok (.goto 4, 3) := by decide +kernel
theorem dX5_flat_9 : decode cX5_flat 9 = .ok (.iload_n 1, 1) := by decide +kernel
theorem dX5_flat_10 : decode cX5_flat 10 = .ok (.ireturn, 1) := by decide +kernel
theorem dX5_signs_0 : decode cX5_signs 0 = .ok (.iload_n 1, 1) := by decide +kernel
theorem dX5_signs_1 : decode cX5_signs 1 = .ok (.ifCond .ne 7, 3) := by decide +kernel
theorem dX5_signs_4 : decode cX5_signs 4 = .ok (.iconst 2, 1) := by decide +kernel
theorem dX5_signs_5 : decode cX5_signs 5 = .ok (.goto 31, 3) := by decide +kernel
theorem dX5_signs_8 : decode cX5_signs 8 = .ok (.iconst 1, 1) := by decide +kernel
theorem dX5_signs_9 : decode cX5_signs 9 = .ok (.aload_n 0, 1) := by decide +kernel
theorem dX5_signs_10 : decode cX5_signs 10 = .ok (.iload_n 1, 1) := by decide +kernel
theorem dX5_signs_11 : decode cX5_signs 11 = .ok (.invokevirtual 156, 3) := by decide +kernel
theorem dX5_signs_14 : decode cX5_signs 14 = .ok (.iadd, 1) := by decide +kernel
theorem dX5_signs_15 : decode cX5_signs 15 = .ok (.iconst 2, 1) := by decide +kernel
theorem dX5_signs_16 : decode cX5_signs 16 = .ok (.iadd, 1) := by decide +kernel
theorem dX5_signs_17 : decode cX5_signs 17 = .ok (.iconst 1, 1) := by decide +kernel
theorem dX5_signs_18 : decode cX5_signs 18 = .ok (.iadd, 1) := by decide +kernel
theorem dX5_signs_19 : decode cX5_signs 19 = .ok (.aload_n 0, 1) := by decide +kernel
theorem dX5_signs_20 : decode cX5_signs 20 = .ok (.aload_n 0, 1) := by decide +kernel
theorem dX5_signs_21 : decode cX5_signs 21 = .ok (.aload_n 0, 1) := by decide +kernel
theorem dX5_signs_22 : decode cX5_signs 22 = .ok (.getfield 16, 3) := by decide +kernel
theorem dX5_signs_25 : decode cX5_signs 25 = .ok (.iload_n 1, 1) := by decide +kernel
theorem dX5_signs_26 : decode cX5_signs 26 = .ok (.iaload, 1) := by decide +kernel
theorem dX5_signs_27 : decode cX5_signs 27 = .ok (.invokevirtual 159, 3) := by decide +kernel
theorem dX5_signs_30 : decode cX5_signs 30 = .ok (.invokevirtual 156, 3) := by decide +kernel
theorem dX5_signs_33 : decode cX5_signs 33 = .ok (.iadd, 1) := by decide +kernel
theorem dX5_signs_34 : decode cX5_signs 34 = .ok (.iconst 4, 1) := by decide +kernel
theorem dX5_signs_35 : decode cX5_signs 35 = .ok (.iadd, 1) := by decide +kernel
theorem dX5_signs_36 : decode cX5_signs 36 = .ok (.ireturn, 1) := by decide +kernel
theorem dX5_sign_0 : decode cX5_sign 0 = .ok (.iload_n 2, 1) := by decide +kernel
theorem dX5_sign_1 : decode cX5_sign 1 = .ok (.ifCond .ne 6, 3) := by decide +kernel
theorem dX5_sign_4 : decode cX5_sign 4 = .ok (.bipush 102, 2) := by decide +kernel
theorem dX5_sign_6 : decode cX5_sign 6 = .ok (.ireturn, 1) := by decide +kernel
theorem dX5_sign_7 : decode cX5_sign 7 = .ok (.iload_n 2, 1) := by decide +kernel
theorem dX5_sign_8 : decode cX5_sign 8 = .ok (.iconst 1, 1) := by decide +kernel
theorem dX5_sign_9 : decode cX5_sign 9 = .ok (.isub, 1) := by decide +kernel
theorem dX5_sign_10 : decode cX5_sign 10 = .ok (.istore_n 3, 1) := by decide +kernel
theorem dX5_sign_11 : decode cX5_sign 11 = .ok (.iload_n 3, 1) := by decide +kernel
theorem dX5_sign_12 : decode cX5_sign 12 = .ok (.aload_n 0, 1) := by decide +kernel
theorem dX5_sign_13 : decode cX5_sign 13 = .ok (.iload_n 1, 1) := by decide +kernel
theorem dX5_sign_14 : decode cX5_sign 14 = .ok (.invokevirtual 156, 3) := by decide +kernel
theorem dX5_sign_17 : decode cX5_sign 17 = .ok (.if_icmp .ge 10, 3) := by decide +kernel
theorem dX5_sign_20 : decode cX5_sign 20 = .ok (.aload_n 0, 1) := by decide +kernel
theorem dX5_sign_21 : decode cX5_sign 21 = .ok (.iload_n 1, 1) := by decide +kernel
theorem dX5_sign_22 : decode cX5_sign 22 = .ok (.iload_n 3, 1) := by decide +kernel
theorem dX5_sign_23 : decode cX5_sign 23 = .ok (.invokevirtual 162, 3) := by decide +kernel
theorem dX5_sign_26 : decode cX5_sign 26 = .ok (.ireturn, 1) := by decide +kernel
theorem dX5_sign_27 : decode cX5_sign 27 = .ok (.iload_n 3, 1) := by decide +kernel
theorem dX5_sign_28 : decode cX5_sign 28 = .ok (.aload_n 0, 1) := by decide +kernel
theorem dX5_sign_29 : decode cX5_sign 29 = .ok (.iload_n 1, 1) := by decide +kernel
theorem dX5_sign_30 : decode cX5_sign 30 = .ok (.invokevirtual 156, 3) := by decide +kernel
theorem dX5_sign_33 : decode cX5_sign 33 = .ok (.isub, 1) := by decide +kernel
theorem dX5_sign_34 : decode cX5_sign 34 = .ok (.istore_n 3, 1) := by decide +kernel
theorem dX5_sign_35 : decode cX5_sign 35 = .ok (.iload_n 3, 1) := by decide +kernel
theorem dX5_sign_36 : decode cX5_sign 36 = .ok (.iconst 3, 1) := by decide +kernel
theorem dX5_sign_37 : decode cX5_sign 37 = .ok (.if_icmp .ge 47, 3) := by decide +kernel
theorem dX5_sign_40 : decode cX5_sign 40 = .ok (.iload_n 3, 1) := by decide +kernel
theorem dX5_sign_41 : decode cX5_sign 41 = .ok (.ifCond .ne 8, 3) := by decide +kernel
theorem dX5_sign_44 : decode cX5_sign 44 = .ok (.bipush 42, 2) := by decide +kernel
theorem dX5_sign_46 : decode cX5_sign 46 = .ok (.goto 37, 3) := by decide +kernel
theorem dX5_sign_49 : decode cX5_sign 49 = .ok (.iload_n 3, 1) := by decide +kernel
theorem dX5_sign_50 : decode cX5_sign 50 = .ok (.iconst 1, 1) := by decide +kernel
theorem dX5_sign_51 : decode cX5_sign 51 = .ok (.if_icmp .ne 16, 3) := by decide +kernel
theorem dX5_sign_54 : decode cX5_sign 54 = .ok (.bipush 48, 2) := by decide +kernel
theorem dX5_sign_56 : decode cX5_sign 56 = .ok (.aload_n 0, 1) := by decide +kernel
theorem dX5_sign_57 : decode cX5_sign 57 = .ok (.getfield 13, 3) := by decide +kernel
theorem dX5_sign_60 : decode cX5_sign 60 = .ok (.iload_n 1, 1) := by decide +kernel
theorem dX5_sign_61 : decode cX5_sign 61 = .ok (.iaload, 1) := by decide +kernel
theorem dX5_sign_62 : decode cX5_sign 62 = .ok (.iadd, 1) := by decide +kernel
theorem dX5_sign_63 : decode cX5_sign 63 = .ok (.i2c, 1) := by decide +kernel
theorem dX5_sign_64 : decode cX5_sign 64 = .ok (.goto 19, 3) := by decide +kernel
theorem dX5_sign_67 : decode cX5_sign 67 = .ok (.aload_n 0, 1) := by decide +kernel
theorem dX5_sign_68 : decode cX5_sign 68 = .ok (.getfield 16, 3) := by decide +kernel
theorem dX5_sign_71 : decode cX5_sign 71 = .ok (.iload_n 1, 1) := by decide +kernel
theorem dX5_sign_72 : decode cX5_sign 72 = .ok (.iaload, 1) := by decide +kernel
theorem dX5_sign_73 : decode cX5_sign 73 = .ok (.ifCond .ge 8, 3) := by decide +kernel
theorem dX5_sign_76 : decode cX5_sign 76 = .ok (.bipush 45, 2) := by decide +kernel
theorem dX5_sign_78 : decode cX5_sign 78 = .ok (.goto 5, 3) := by decide +kernel
theorem dX5_sign_81 : decode cX5_sign 81 = .ok (.bipush 43, 2) := by decide +kernel
theorem dX5_sign_83 : decode cX5_sign 83 = .ok (.ireturn, 1) := by decide +kernel
theorem dX5_sign_84 : decode cX5_sign 84 = .ok (.iinc 3 (-3), 3) := by decide +kernel
theorem dX5_sign_87 : decode cX5_sign 87 = .ok (.iload_n 3, 1) := by decide +kernel
theorem dX5_sign_88 : decode cX5_sign 88 = .ok (.aload_n 0, 1) := by decide +kernel
theorem dX5_sign_89 : decode cX5_sign 89 = .ok (.aload_n 0, 1) := by decide +kernel
theorem dX5_sign_90 : decode cX5_sign 90 = .ok (.aload_n 0, 1) := by decide +kernel
theorem dX5_sign_91 : decode cX5_sign 91 = .ok (.getfield 16, 3) := by decide +kernel
theorem dX5_sign_94 : decode cX5_sign 94 = .ok (.iload_n 1, 1) := by decide +kernel
theorem dX5_sign_95 : decode cX5_sign 95 = .ok (.iaload, 1) := by decide +kernel
theorem dX5_sign_96 : decode cX5_sign 96 = .ok (.invokevirtual 159, 3) := by decide +kernel
theorem dX5_sign_99 : decode cX5_sign 99 = .ok (.invokevirtual 156, 3) := by decide +kernel
theorem dX5_sign_102 : decode cX5_sign 102 = .ok (.if_icmp .ge 19, 3) := by decide +kernel
theorem dX5_sign_105 : decode cX5_sign 105 = .ok (.aload_n 0, 1) := by decide +kernel
theorem dX5_sign_106 : decode cX5_sign 106 = .ok (.aload_n 0, 1) := by decide +kernel
theorem dX5_sign_107 : decode cX5_sign 107 = .ok (.aload_n 0, 1) := by decide +kernel
theorem dX5_sign_108 : decode cX5_sign 108 = .ok (.getfield 16, 3) := by decide +kernel
theorem dX5_sign_111 : decode cX5_sign 111 = .ok (.iload_n 1, 1) := by decide +kernel
theorem dX5_sign_112 : decode cX5_sign 112 = .ok (.iaload, 1) := by decide +kernel
theorem dX5_sign_113 : decode cX5_sign 113 = .ok (.invokevirtual 159, 3) := by decide +kernel
theorem dX5_sign_116 : decode cX5_sign 116 = .ok (.iload_n 3, 1) := by decide +kernel
theorem dX5_sign_117 : decode cX5_sign 117 = .ok (.invokevirtual 162, 3) := by decide +kernel
theorem dX5_sign_120 : decode cX5_sign 120 = .ok (.ireturn, 1) := by decide +kernel
theorem dX5_sign_121 : decode cX5_sign 121 = .ok (.iload_n 3, 1) := by decide +kernel
theorem dX5_sign_122 : decode cX5_sign 122 = .ok (.aload_n 0, 1) := by decide +kernel
theorem dX5_sign_123 : decode cX5_sign 123 = .ok (.aload_n 0, 1) := by decide +kernel
theorem dX5_sign_124 : decode cX5_sign 124 = .ok (.aload_n 0, 1) := by decide +kernel
theorem dX5_sign_125 : decode cX5_sign 125 = .ok (.getfield 16, 3) := by decide +kernel
theorem dX5_sign_128 : decode cX5_sign 128 = .ok (.iload_n 1, 1) := by decide +kernel
theorem dX5_sign_129 : decode cX5_sign 129 = .ok (.iaload, 1) := by decide +kernel
theorem dX5_sign_130 : decode cX5_sign 130 = .ok (.invokevirtual 159, 3) := by decide +kernel
theorem dX5_sign_133 : decode cX5_sign 133 = .ok (.invokevirtual 156, 3) := by decide +kernel
theorem dX5_sign_136 : decode cX5_sign 136 = .ok (.isub, 1) := by decide +kernel
theorem dX5_sign_137 : decode cX5_sign 137 = .ok (.istore_n 3, 1) := by decide +kernel
theorem dX5_sign_138 : decode cX5_sign 138 = .ok (.iload_n 3, 1) := by decide +kernel
theorem dX5_sign_139 : decode cX5_sign 139 = .ok (.iconst 1, 1) := by decide +kernel
theorem dX5_sign_140 : decode cX5_sign 140 = .ok (.if_icmp .ne 8, 3) := by decide +kernel
theorem dX5_sign_143 : decode cX5_sign 143 = .ok (.bipush 111, 2) := by decide +kernel
theorem dX5_sign_145 : decode cX5_sign 145 = .ok (.goto 15, 3) := by decide +kernel
theorem dX5_sign_148 : decode cX5_sign 148 = .ok (.iload_n 3, 1) := by decide +kernel
theorem dX5_sign_149 : decode cX5_sign 149 = .ok (.iconst 2, 1) := by decide +kernel
theorem dX5_sign_150 : decode cX5_sign 150 = .ok (.if_icmp .ne 8, 3) := by decide +kernel
theorem dX5_sign_153 : decode cX5_sign 153 = .ok (.bipush 110, 2) := by decide +kernel
theorem dX5_sign_155 : decode cX5_sign 155 = .ok (.goto 5, 3) := by decide +kernel
theorem dX5_sign_158 : decode cX5_sign 158 = .ok (.bipush 32, 2) := by decide +kernel
theorem dX5_sign_160 : decode cX5_sign 160 = .ok (.ireturn, 1) := by decide +kernel
theorem dX5_tells_0 : decode cX5_tells 0 = .ok (.aload_n 0, 1) := by decide +kernel
theorem dX5_tells_1 : decode cX5_tells 1 = .ok (.aload_n 0, 1) := by decide +kernel
theorem dX5_tells_2 : decode cX5_tells 2 = .ok (.iload_n 1, 1) := by decide +kernel
theorem dX5_tells_3 : decode cX5_tells 3 = .ok (.invokevirtual 92, 3) := by decide +kernel
theorem dX5_tells_6 : decode cX5_tells 6 = .ok (.ifCond .eq 11, 3) := by decide +kernel
theorem dX5_tells_9 : decode cX5_tells 9 = .ok (.iload_n 2, 1) := by decide +kernel
theorem dX5_tells_10 : decode cX5_tells 10 = .ok (.ifCond .lt 7, 3) := by decide +kernel
theorem dX5_tells_13 : decode cX5_tells 13 = .ok (.iconst 0, 1) := by decide +kernel
theorem dX5_tells_14 : decode cX5_tells 14 = .ok (.goto 4, 3) := by decide +kernel
theorem dX5_tells_17 : decode cX5_tells 17 = .ok (.iconst 1, 1) := by decide +kernel
theorem dX5_tells_18 : decode cX5_tells 18 = .ok (.invokevirtual 100, 3) := by decide +kernel
theorem dX5_tells_21 : decode cX5_tells 21 = .ok (.ifCond .eq 5, 3) := by decide +kernel
theorem dX5_tells_24 : decode cX5_tells 24 = .ok (.iconst 0, 1) := by decide +kernel
theorem dX5_tells_25 : decode cX5_tells 25 = .ok (.ireturn, 1) := by decide +kernel
theorem dX5_tells_26 : decode cX5_tells 26 = .ok (.iload_n 1, 1) := by decide +kernel
theorem dX5_tells_27 : decode cX5_tells 27 = .ok (.istore_n 3, 1) := by decide +kernel
theorem dX5_tells_28 : decode cX5_tells 28 = .ok (.iload_n 2, 1) := by decide +kernel
theorem dX5_tells_29 : decode cX5_tells 29 = .ok (.istore 4, 2) := by decide +kernel
theorem dX5_tells_31 : decode cX5_tells 31 = .ok (.iload_n 3, 1) := by decide +kernel
theorem dX5_tells_32 : decode cX5_tells 32 = .ok (.ifCond .le 33, 3) := by decide +kernel
theorem dX5_tells_35 : decode cX5_tells 35 = .ok (.iload 4, 2) := by decide +kernel
theorem dX5_tells_37 : decode cX5_tells 37 = .ok (.aload_n 0, 1) := by decide +kernel
theorem dX5_tells_38 : decode cX5_tells 38 = .ok (.iload_n 3, 1) := by decide +kernel
theorem dX5_tells_39 : decode cX5_tells 39 = .ok (.invokevirtual 166, 3) := by decide +kernel
theorem dX5_tells_42 : decode cX5_tells 42 = .ok (.if_icmp .lt 23, 3) := by decide +kernel
theorem dX5_tells_45 : decode cX5_tells 45 = .ok (.iload 4, 2) := by decide +kernel
theorem dX5_tells_47 : decode cX5_tells 47 = .ok (.aload_n 0, 1) := by decide +kernel
theorem dX5_tells_48 : decode cX5_tells 48 = .ok (.iload_n 3, 1) := by decide +kernel
theorem dX5_tells_49 : decode cX5_tells 49 = .ok (.invokevirtual 166, 3) := by decide +kernel
theorem dX5_tells_52 : decode cX5_tells 52 = .ok (.isub, 1) := by decide +kernel
theorem dX5_tells_53 : decode cX5_tells 53 = .ok (.istore 4, 2) := by decide +kernel
theorem dX5_tells_55 : decode cX5_tells 55 = .ok (.aload_n 0, 1) := by decide +kernel
theorem dX5_tells_56 : decode cX5_tells 56 = .ok (.getfield 7, 3) := by decide +kernel
theorem dX5_tells_59 : decode cX5_tells 59 = .ok (.iload_n 3, 1) := by decide +kernel
theorem dX5_tells_60 : decode cX5_tells 60 = .ok (.iaload, 1) := by decide +kernel
theorem dX5_tells_61 : decode cX5_tells 61 = .ok (.istore_n 3, 1) := by decide +kernel
theorem dX5_tells_62 : decode cX5_tells 62 = .ok (.goto (-31), 3) := by decide +kernel
theorem dX5_tells_65 : decode cX5_tells 65 = .ok (.iload 4, 2) := by decide +kernel
theorem dX5_tells_67 : decode cX5_tells 67 = .ok (.aload_n 0, 1) := by decide +kernel
theorem dX5_tells_68 : decode cX5_tells 68 = .ok (.iload_n 3, 1) := by decide +kernel
theorem dX5_tells_69 : decode cX5_tells 69 = .ok (.invokevirtual 166, 3) := by decide +kernel
theorem dX5_tells_72 : decode cX5_tells 72 = .ok (.if_icmp .ge 13, 3) := by decide +kernel
theorem dX5_tells_75 : decode cX5_tells 75 = .ok (.aload_n 0, 1) := by decide +kernel
theorem dX5_tells_76 : decode cX5_tells 76 = .ok (.iload_n 3, 1) := by decide +kernel
theorem dX5_tells_77 : decode cX5_tells 77 = .ok (.iload 4, 2) := by decide +kernel
theorem dX5_tells_79 : decode cX5_tells 79 = .ok (.invokevirtual 169, 3) := by decide +kernel
theorem dX5_tells_82 : decode cX5_tells 82 = .ok (.goto 4, 3) := by decide +kernel
theorem dX5_tells_85 : decode cX5_tells 85 = .ok (.iconst 0, 1) := by decide +kernel
theorem dX5_tells_86 : decode cX5_tells 86 = .ok (.ireturn, 1) := by decide +kernel
end
section
theorem dJ5_init_d00df_0 : decode cJ5_init_d00df 0 = .ok (.aload_n 0, 1) := by decide +kernel
theorem dJ5_init_d00df_1 : decode cJ5_init_d00df 1 = .ok (.invokespecial 3, 3) := by decide +kernel
theorem dJ5_init_d00df_4 : decode cJ5_init_d00df 4 = .ok (.getstatic 18, 3) := by decide +kernel
theorem dJ5_init_d00df_7 : decode cJ5_init_d00df 7 = .ok (.ifCond .eq 18, 3) := by decide +kernel
theorem dJ5_init_d00df_10 : decode cJ5_init_d00df 10 = .ok (.aload_n 0, 1) := by decide +kernel
theorem dJ5_init_d00df_11 : decode cJ5_init_d00df 11 = .ok (.iload_n 1, 1) := by decide +kernel
theorem dJ5_init_d00df_12 : decode cJ5_init_d00df 12 = .ok (.newarray .byte, 2) := by decide +kernel
theorem dJ5_init_d00df_14 : decode cJ5_init_d00df 14 = .ok (.putfield 15, 3) := by decide +kernel
theorem dJ5_init_d00df_17 : decode cJ5_init_d00df 17 = .ok (.aload_n 0, 1) := by decide +kernel
theorem dJ5_init_d00df_18 : decode cJ5_init_d00df 18 = .ok (.iconst 0, 1) := by decide +kernel
theorem dJ5_init_d00df_19 : decode cJ5_init_d00df 19 = .ok (.putfield 22, 3) := by decide +kernel
theorem dJ5_init_d00df_22 : decode cJ5_init_d00df 22 = .ok (.goto 16, 3) := by decide +kernel
theorem dJ5_init_d00df_25 : decode cJ5_init_d00df 25 = .ok (.aload_n 0, 1) := by decide +kernel
theorem dJ5_init_d00df_26 : decode cJ5_init_d00df 26 = .ok (.iload_n 1, 1) := by decide +kernel
theorem dJ5_init_d00df_27 : decode cJ5_init_d00df 27 = .ok (.invokestatic 26, 3) := by decide +kernel
theorem dJ5_init_d00df_30 : decode cJ5_init_d00df 30 = .ok (.putfield 15, 3) := by decide +kernel
theorem dJ5_init_d00df_33 : decode cJ5_init_d00df 33 = .ok (.aload_n 0, 1) := by decide +kernel
theorem dJ5_init_d00df_34 : decode cJ5_init_d00df 34 = .ok (.iconst 1, 1) := by decide +kernel
theorem dJ5_init_d00df_35 : decode cJ5_init_d00df 35 = .ok (.putfield 22, 3) := by decide +kernel
theorem dJ5_init_d00df_38 : decode cJ5_init_d00df 38 = .ok (.return_, 1) := by decide +kernel
theorem dJ5_length_8abf5_0 : decode cJ5_length_8abf5 0 = .ok (.aload_n 0, 1) := by decide +kernel
theorem dJ5_length_8abf5_1 : decode cJ5_length_8abf5 1 = .ok (.getfield 79, 3) := by decide +kernel
theorem dJ5_length_8abf5_4 : decode cJ5_length_8abf5 4 = .ok (.ireturn, 1) := by decide +kernel
theorem dJ5_ensureCapacityInternal_d00df_0 : decode cJ5_ensureCapacityInternal_d00df 0 = .ok (.aload_n 0, 1) := by decide +kernel
theorem dJ5_ensureCapacityInternal_d00df_1 : decode cJ5_ensureCapacityInternal_d00df 1 = .ok (.getfield 15, 3) := by decide +kernel
theorem dJ5_ensureCapacityInternal_d00df_4 : decode cJ5_ensureCapacityInternal_d00df 4 = .ok (.arraylength, 1) := by decide +kernel
theorem dJ5_ensureCapacityInternal_d00df_5 : decode cJ5_ensureCapacityInternal_d00df 5 = .ok (.aload_n 0, 1) := by decide +kernel
theorem dJ5_ensureCapacityInternal_d00df_6 : decode cJ5_ensureCapacityInternal_d00df 6 = .ok (.getfield 22, 3) := by decide +kernel
theorem dJ5_ensureCapacityInternal_d00df_9 : decode cJ5_ensureCapacityInternal_d00df 9 = .ok (.ishr, 1) := by decide +kernel
theorem dJ5_ensureCapacityInternal_d00df_10 : decode cJ5_ensureCapacityInternal_d00df 10 = .ok (.istore_n 2, 1) := by decide +kernel
theorem dJ5_ensureCapacityInternal_d00df_11 : decode cJ5_ensureCapacityInternal_d00df 11 = .ok (.iload_n 1, 1) := by decide +kernel
theorem dJ5_ensureCapacityInternal_d00df_12 : decode cJ5_ensureCapacityInternal_d00df 12 = .ok (.iload_n 2, 1) := by decide +kernel
theorem dJ5_ensureCapacityInternal_d00df_13 : decode cJ5_ensureCapacityInternal_d00df 13 = .ok (.isub, 1) := by decide +kernel
theorem dJ5_ensureCapacityInternal_d00df_14 : decode cJ5_ensureCapacityInternal_d00df 14 = .ok (.ifCond .le 24, 3) := by decide +kernel
theorem dJ5_ensureCapacityInternal_d00df_17 : decode cJ5_ensureCapacityInternal_d00df 17 = .ok (.aload_n 0, 1) := by decide +kernel
theorem dJ5_ensureCapacityInternal_d00df_18 : decode cJ5_ensureCapacityInternal_d00df 18 = .ok (.aload_n 0, 1) := by decide +kernel
theorem dJ5_ensureCapacityInternal_d00df_19 : decode cJ5_ensureCapacityInternal_d00df 19 = .ok (.getfield 15, 3) := by decide +kernel
theorem dJ5_ensureCapacityInternal_d00df_22 : decode cJ5_ensureCapacityInternal_d00df 22 = .ok (.aload_n 0, 1) := by decide +kernel
theorem dJ5_ensureCapacityInternal_d00df_23 : decode cJ5_ensureCapacityInternal_d00df 23 = .ok (.iload_n 1, 1) := by decide +kernel
theorem dJ5_ensureCapacityInternal_d00df_24 : decode cJ5_ensureCapacityInternal_d00df 24 = .ok (.invokevirtual 104, 3) := by decide +kernel
theorem dJ5_ensureCapacityInternal_d00df_27 : decode cJ5_ensureCapacityInternal_d00df 27 = .ok (.aload_n 0, 1) := by decide +kernel
theorem dJ5_ensureCapacityInternal_d00df_28 : decode cJ5_ensureCapacityInternal_d00df 28 = .ok (.getfield 22, 3) := by decide +kernel
theorem dJ5_ensureCapacityInternal_d00df_31 : decode cJ5_ensureCapacityInternal_d00df 31 = .ok (.ishl, 1) := by decide +kernel
theorem dJ5_ensureCapacityInternal_d00df_32 : decode cJ5_ensureCapacityInternal_d00df 32 = .ok (.invokestatic 108, 3) := by decide +kernel
theorem dJ5_ensureCapacityInternal_d00df_35 : decode cJ5_ensureCapacityInternal_d00df 35 = .ok (.putfield 15, 3) := by decide +kernel
theorem dJ5_ensureCapacityInternal_d00df_38 : decode cJ5_ensureCapacityInternal_d00df 38 = .ok (.return_, 1) := by decide +kernel
theorem dJ5_newCapacity_0f7a4_0 : decode cJ5_newCapacity_0f7a4 0 = .ok (.aload_n 0, 1) := by decide +kernel
theorem dJ5_newCapacity_0f7a4_1 : decode cJ5_newCapacity_0f7a4 1 = .ok (.getfield 15, 3) := by decide +kernel
theorem dJ5_newCapacity_0f7a4_4 : decode cJ5_newCapacity_0f7a4 4 = .ok (.arraylength, 1) := by decide +kernel
theorem dJ5_newCapacity_0f7a4_5 : decode cJ5_newCapacity_0f7a4 5 = .ok (.istore_n 2, 1) := by decide +kernel
theorem dJ5_newCapacity_0f7a4_6 : decode cJ5_newCapacity_0f7a4 6 = .ok (.iload_n 1, 1) := by decide +kernel
theorem dJ5_newCapacity_0f7a4_7 : decode cJ5_newCapacity_0f7a4 7 = .ok (.aload_n 0, 1) := by decide +kernel
theorem dJ5_newCapacity_0f7a4_8 : decode cJ5_newCapacity_0f7a4 8 = .ok (.getfield 22, 3) := by decide +kernel
theorem dJ5_newCapacity_0f7a4_11 : decode cJ5_newCapacity_0f7a4 11 = .ok (.ishl, 1) := by decide +kernel
theorem dJ5_newCapacity_0f7a4_12 : decode cJ5_newCapacity_0f7a4 12 = .ok (.istore_n 3, 1) := by decide +kernel
theorem dJ5_newCapacity_0f7a4_13 : decode cJ5_newCapacity_0f7a4 13 = .ok (.iload_n 3, 1) := by decide +kernel
theorem dJ5_newCapacity_0f7a4_14 : decode cJ5_newCapacity_0f7a4 14 = .ok (.iload_n 2, 1) := by decide +kernel
theorem dJ5_newCapacity_0f7a4_15 : decode cJ5_newCapacity_0f7a4 15 = .ok (.isub, 1) := by decide +kernel
theorem dJ5_newCapacity_0f7a4_16 : decode cJ5_newCapacity_0f7a4 16 = .ok (.istore 4, 2) := by decide +kernel
theorem dJ5_newCapacity_0f7a4_18 : decode cJ5_newCapacity_0f7a4 18 = .ok (.iload_n 2, 1) := by decide +kernel
theorem dJ5_newCapacity_0f7a4_19 : decode cJ5_newCapacity_0f7a4 19 = .ok (.iload 4, 2) := by decide +kernel
theorem dJ5_newCapacity_0f7a4_21 : decode cJ5_newCapacity_0f7a4 21 = .ok (.iload_n 2, 1) := by decide +kernel
theorem dJ5_newCapacity_0f7a4_22 : decode cJ5_newCapacity_0f7a4 22 = .ok (.iconst 2, 1) := by decide +kernel
theorem dJ5_newCapacity_0f7a4_23 : decode cJ5_newCapacity_0f7a4 23 = .ok (.aload_n 0, 1) := by decide +kernel
theorem dJ5_newCapacity_0f7a4_24 : decode cJ5_newCapacity_0f7a4 24 = .ok (.getfield 22, 3) := by decide +kernel
theorem dJ5_newCapacity_0f7a4_27 : decode cJ5_newCapacity_0f7a4 27 = .ok (.ishl, 1) := by decide +kernel
theorem dJ5_newCapacity_0f7a4_28 : decode cJ5_newCapacity_0f7a4 28 = .ok (.iadd, 1) := by decide +kernel
theorem dJ5_newCapacity_0f7a4_29 : decode cJ5_newCapacity_0f7a4 29 = .ok (.invokestatic 114, 3) := by decide +kernel
theorem dJ5_newCapacity_0f7a4_32 : decode cJ5_newCapacity_0f7a4 32 = .ok (.istore 5, 2) := by decide +kernel
theorem dJ5_newCapacity_0f7a4_34 : decode cJ5_newCapacity_0f7a4 34 = .ok (.iload 5, 2) := by decide +kernel
theorem dJ5_newCapacity_0f7a4_36 : decode cJ5_newCapacity_0f7a4 36 = .ok (.ldc 39, 2) := by decide +kernel
theorem dJ5_newCapacity_0f7a4_38 : decode cJ5_newCapacity_0f7a4 38 = .ok (.if_icmp .ne 13, 3) := by decide +kernel
theorem dJ5_newCapacity_0f7a4_41 : decode cJ5_newCapacity_0f7a4 41 = .ok (.new 120, 3) := by decide +kernel
theorem dJ5_newCapacity_0f7a4_44 : decode cJ5_newCapacity_0f7a4 44 = .ok (.dup, 1) := by decide +kernel
theorem dJ5_newCapacity_0f7a4_45 : decode cJ5_newCapacity_0f7a4 45 = .ok (.ldc 122, 2) := by decide +kernel
theorem dJ5_newCapacity_0f7a4_47 : decode cJ5_newCapacity_0f7a4 47 = .ok (.invokespecial 124, 3) := by decide +kernel
theorem dJ5_newCapacity_0f7a4_50 : decode cJ5_newCapacity_0f7a4 50 = .ok (.athrow, 1) := by decide +kernel
theorem dJ5_newCapacity_0f7a4_51 : decode cJ5_newCapacity_0f7a4 51 = .ok (.iload 5, 2) := by decide +kernel
theorem dJ5_newCapacity_0f7a4_53 : decode cJ5_newCapacity_0f7a4 53 = .ok (.aload_n 0, 1) := by decide +kernel
theorem dJ5_newCapacity_0f7a4_54 : decode cJ5_newCapacity_0f7a4 54 = .ok (.getfield 22, 3) := by decide +kernel
theorem dJ5_newCapacity_0f7a4_57 : decode cJ5_newCapacity_0f7a4 57 = .ok (.ishr, 1) := by decide +kernel
theorem dJ5_newCapacity_0f7a4_58 : decode cJ5_newCapacity_0f7a4 58 = .ok (.ireturn, 1) := by decide +kernel
theorem dJ5_inflate_da8c8_0 : decode cJ5_inflate_da8c8 0 = .ok (.aload_n 0, 1) := by decide +kernel
theorem dJ5_inflate_da8c8_1 : decode cJ5_inflate_da8c8 1 = .ok (.invokevirtual 83, 3) := by decide +kernel
theorem dJ5_inflate_da8c8_4 : decode cJ5_inflate_da8c8 4 = .ok (.ifCond .ne 4, 3) := by decide +kernel
theorem dJ5_inflate_da8c8_7 : decode cJ5_inflate_da8c8 7 = .ok (.return_, 1) := by decide +kernel
theorem dJ5_inflate_da8c8_8 : decode cJ5_inflate_da8c8 8 = .ok (.aload_n 0, 1) := by decide +kernel
theorem dJ5_inflate_da8c8_9 : decode cJ5_inflate_da8c8 9 = .ok (.getfield 15, 3) := by decide +kernel
theorem dJ5_inflate_da8c8_12 : decode cJ5_inflate_da8c8 12 = .ok (.arraylength, 1) := by decide +kernel
theorem dJ5_inflate_da8c8_13 : decode cJ5_inflate_da8c8 13 = .ok (.invokestatic 26, 3) := by decide +kernel
theorem dJ5_inflate_da8c8_16 : decode cJ5_inflate_da8c8 16 = .ok (.astore_n 1, 1) := by decide +kernel
theorem dJ5_inflate_da8c8_17 : decode cJ5_inflate_da8c8 17 = .ok (.aload_n 0, 1) := by decide +kernel
theorem dJ5_inflate_da8c8_18 : decode cJ5_inflate_da8c8 18 = .ok (.getfield 15, 3) := by decide +kernel
theorem dJ5_inflate_da8c8_21 : decode cJ5_inflate_da8c8 21 = .ok (.iconst 0, 1) := by decide +kernel
theorem dJ5_inflate_da8c8_22 : decode cJ5_inflate_da8c8 22 = .ok (.aload_n 1, 1) := by decide +kernel
theorem dJ5_inflate_da8c8_23 : decode cJ5_inflate_da8c8 23 = .ok (.iconst 0, 1) := by decide +kernel
theorem dJ5_inflate_da8c8_24 : decode cJ5_inflate_da8c8 24 = .ok (.aload_n 0, 1) := by decide +kernel
theorem dJ5_inflate_da8c8_25 : decode cJ5_inflate_da8c8 25 = .ok (.getfield 79, 3) := by decide +kernel
theorem dJ5_inflate_da8c8_28 : decode cJ5_inflate_da8c8 28 = .ok (.invokestatic 125, 3) := by decide +kernel
theorem dJ5_inflate_da8c8_31 : decode cJ5_inflate_da8c8 31 = .ok (.aload_n 0, 1) := by decide +kernel
theorem dJ5_inflate_da8c8_32 : decode cJ5_inflate_da8c8 32 = .ok (.aload_n 1, 1) := by decide +kernel
theorem dJ5_inflate_da8c8_33 : decode cJ5_inflate_da8c8 33 = .ok (.putfield 15, 3) := by decide +kernel
theorem dJ5_inflate_da8c8_36 : decode cJ5_inflate_da8c8 36 = .ok (.aload_n 0, 1) := by decide +kernel
theorem dJ5_inflate_da8c8_37 : decode cJ5_inflate_da8c8 37 = .ok (.iconst 1, 1) := by decide +kernel
theorem dJ5_inflate_da8c8_38 : decode cJ5_inflate_da8c8 38 = .ok (.putfield 22, 3) := by decide +kernel
theorem dJ5_inflate_da8c8_41 : decode cJ5_inflate_da8c8 41 = .ok (.return_, 1) := by decide +kernel
theorem dJ5_setLength_d00df_0 : decode cJ5_setLength_d00df 0 = .ok (.iload_n 1, 1) := by decide +kernel
theorem dJ5_setLength_d00df_1 : decode cJ5_setLength_d00df 1 = .ok (.ifCond .ge 12, 3) := by decide +kernel
theorem dJ5_setLength_d00df_4 : decode cJ5_setLength_d00df 4 = .ok (.new 129, 3) := by decide +kernel
theorem dJ5_setLength_d00df_7 : decode cJ5_setLength_d00df 7 = .ok (.dup, 1) := by decide +kernel
theorem dJ5_setLength_d00df_8 : decode cJ5_setLength_d00df 8 = .ok (.iload_n 1, 1) := by decide +kernel
theorem dJ5_setLength_d00df_9 : decode cJ5_setLength_d00df 9 = .ok (.invokespecial 131, 3) := by decide +kernel
theorem dJ5_setLength_d00df_12 : decode cJ5_setLength_d00df 12 = .ok (.athrow, 1) := by decide +kernel
theorem dJ5_setLength_d00df_13 : decode cJ5_setLength_d00df 13 = .ok (.aload_n 0, 1) := by decide +kernel
theorem dJ5_setLength_d00df_14 : decode cJ5_setLength_d00df 14 = .ok (.iload_n 1, 1) := by decide +kernel
theorem dJ5_setLength_d00df_15 : decode cJ5_setLength_d00df 15 = .ok (.invokevirtual 100, 3) := by decide +kernel
theorem dJ5_setLength_d00df_18 : decode cJ5_setLength_d00df 18 = .ok (.aload_n 0, 1) := by decide +kernel
theorem dJ5_setLength_d00df_19 : decode cJ5_setLength_d00df 19 = .ok (.getfield 79, 3) := by decide +kernel
theorem dJ5_setLength_d00df_22 : decode cJ5_setLength_d00df 22 = .ok (.iload_n 1, 1) := by decide +kernel
theorem dJ5_setLength_d00df_23 : decode cJ5_setLength_d00df 23 = .ok (.if_icmp .ge 40, 3) := by decide +kernel
theorem dJ5_setLength_d00df_26 : decode cJ5_setLength_d00df 26 = .ok (.aload_n 0, 1) := by decide +kernel
theorem dJ5_setLength_d00df_27 : decode cJ5_setLength_d00df 27 = .ok (.invokevirtual 83, 3) := by decide +kernel
theorem dJ5_setLength_d00df_30 : decode cJ5_setLength_d00df 30 = .ok (.ifCond .eq 18, 3) := by decide +kernel
theorem dJ5_setLength_d00df_33 : decode cJ5_setLength_d00df 33 = .ok (.aload_n 0, 1) := by decide +kernel
theorem dJ5_setLength_d00df_34 : decode cJ5_setLength_d00df 34 = .ok (.getfield 15, 3) := by decide +kernel
theorem dJ5_setLength_d00df_37 : decode cJ5_setLength_d00df 37 = .ok (.aload_n 0, 1) := by decide +kernel
theorem dJ5_setLength_d00df_38 : decode cJ5_setLength_d00df 38 = .ok (.getfield 79, 3) := by decide +kernel
theorem dJ5_setLength_d00df_41 : decode cJ5_setLength_d00df 41 = .ok (.iload_n 1, 1) := by decide +kernel
theorem dJ5_setLength_d00df_42 : decode cJ5_setLength_d00df 42 = .ok (.invokestatic 133, 3) := by decide +kernel
theorem dJ5_setLength_d00df_45 : decode cJ5_setLength_d00df 45 = .ok (.goto 31, 3) := by decide +kernel
theorem dJ5_setLength_d00df_48 : decode cJ5_setLength_d00df 48 = .ok (.aload_n 0, 1) := by decide +kernel
theorem dJ5_setLength_d00df_49 : decode cJ5_setLength_d00df 49 = .ok (.getfield 15, 3) := by decide +kernel
theorem dJ5_setLength_d00df_52 : decode cJ5_setLength_d00df 52 = .ok (.aload_n 0, 1) := by decide +kernel
theorem dJ5_setLength_d00df_53 : decode cJ5_setLength_d00df 53 = .ok (.getfield 79, 3) := by decide +kernel
theorem dJ5_setLength_d00df_56 : decode cJ5_setLength_d00df 56 = .ok (.iload_n 1, 1) := by decide +kernel
theorem dJ5_setLength_d00df_57 : decode cJ5_setLength_d00df 57 = .ok (.invokestatic 137, 3) := by decide +kernel
theorem dJ5_setLength_d00df_60 : decode cJ5_setLength_d00df 60 = .ok (.goto 16, 3) := by decide +kernel
theorem dJ5_setLength_d00df_63 : decode cJ5_setLength_d00df 63 = .ok (.aload_n 0, 1) := by decide +kernel
theorem dJ5_setLength_d00df_64 : decode cJ5_setLength_d00df 64 = .ok (.getfield 79, 3) := by decide +kernel
theorem dJ5_setLength_d00df_67 : decode cJ5_setLength_d00df 67 = .ok (.iload_n 1, 1) := by decide +kernel
theorem dJ5_setLength_d00df_68 : decode cJ5_setLength_d00df 68 = .ok (.if_icmp .le 8, 3) := by decide +kernel
theorem dJ5_setLength_d00df_71 : decode cJ5_setLength_d00df 71 = .ok (.aload_n 0, 1) := by decide +kernel
theorem dJ5_setLength_d00df_72 : decode cJ5_setLength_d00df 72 = .ok (.iconst 1, 1) := by decide +kernel
theorem dJ5_setLength_d00df_73 : decode cJ5_setLength_d00df 73 = .ok (.putfield 73, 3) := by decide +kernel
theorem dJ5_setLength_d00df_76 : decode cJ5_setLength_d00df 76 = .ok (.aload_n 0, 1) := by decide +kernel
theorem dJ5_setLength_d00df_77 : decode cJ5_setLength_d00df 77 = .ok (.iload_n 1, 1) := by decide +kernel
theorem dJ5_setLength_d00df_78 : decode cJ5_setLength_d00df 78 = .ok (.putfield 79, 3) := by decide +kernel
theorem dJ5_setLength_d00df_81 : decode cJ5_setLength_d00df 81 = .ok (.return_, 1) := by decide +kernel
theorem dJ5_charAt_5068e_0 : decode cJ5_charAt_5068e 0 = .ok (.aload_n 0, 1) := by decide +kernel
theorem dJ5_charAt_5068e_1 : decode cJ5_charAt_5068e 1 = .ok (.getfield 22, 3) := by decide +kernel
theorem dJ5_charAt_5068e_4 : decode cJ5_charAt_5068e 4 = .ok (.istore_n 2, 1) := by decide +kernel
theorem dJ5_charAt_5068e_5 : decode cJ5_charAt_5068e 5 = .ok (.aload_n 0, 1) := by decide +kernel
theorem dJ5_charAt_5068e_6 : decode cJ5_charAt_5068e 6 = .ok (.getfield 15, 3) := by decide +kernel
theorem dJ5_charAt_5068e_9 : decode cJ5_charAt_5068e 9 = .ok (.astore_n 3, 1) := by decide +kernel
theorem dJ5_charAt_5068e_10 : decode cJ5_charAt_5068e 10 = .ok (.aload_n 0, 1) := by decide +kernel
theorem dJ5_charAt_5068e_11 : decode cJ5_charAt_5068e 11 = .ok (.getfield 79, 3) := by decide +kernel
theorem dJ5_charAt_5068e_14 : decode cJ5_charAt_5068e 14 = .ok (.aload_n 3, 1) := by decide +kernel
theorem dJ5_charAt_5068e_15 : decode cJ5_charAt_5068e 15 = .ok (.arraylength, 1) := by decide +kernel
theorem dJ5_charAt_5068e_16 : decode cJ5_charAt_5068e 16 = .ok (.iload_n 2, 1) := by decide +kernel
theorem dJ5_charAt_5068e_17 : decode cJ5_charAt_5068e 17 = .ok (.ishr, 1) := by decide +kernel
theorem dJ5_charAt_5068e_18 : decode cJ5_charAt_5068e 18 = .ok (.invokestatic 138, 3) := by decide +kernel
theorem dJ5_charAt_5068e_21 : decode cJ5_charAt_5068e 21 = .ok (.istore 4, 2) := by decide +kernel
theorem dJ5_charAt_5068e_23 : decode cJ5_charAt_5068e 23 = .ok (.iload_n 1, 1) := by decide +kernel
theorem dJ5_charAt_5068e_24 : decode cJ5_charAt_5068e 24 = .ok (.iload 4, 2) := by decide +kernel
theorem dJ5_charAt_5068e_26 : decode cJ5_charAt_5068e 26 = .ok (.invokestatic 144, 3) := by decide +kernel
theorem dJ5_charAt_5068e_29 : decode cJ5_charAt_5068e 29 = .ok (.iload_n 2, 1) := by decide +kernel
theorem dJ5_charAt_5068e_30 : decode cJ5_charAt_5068e 30 = .ok (.ifCond .ne 12, 3) := by decide +kernel
theorem dJ5_charAt_5068e_33 : decode cJ5_charAt_5068e 33 = .ok (.aload_n 3, 1) := by decide +kernel
theorem dJ5_charAt_5068e_34 : decode cJ5_charAt_5068e 34 = .ok (.iload_n 1, 1) := by decide +kernel
theorem dJ5_charAt_5068e_35 : decode cJ5_charAt_5068e 35 = .ok (.baload, 1) := by decide +kernel
theorem dJ5_charAt_5068e_36 : decode cJ5_charAt_5068e 36 = .ok (.sipush 255, 3) := by decide +kernel
theorem dJ5_charAt_5068e_39 : decode cJ5_charAt_5068e 39 = .ok (.iand, 1) := by decide +kernel
theorem dJ5_charAt_5068e_40 : decode cJ5_charAt_5068e 40 = .ok (.i2c, 1) := by decide +kernel
theorem dJ5_charAt_5068e_41 : decode cJ5_charAt_5068e 41 = .ok (.ireturn, 1) := by decide +kernel
theorem dJ5_charAt_5068e_42 : decode cJ5_charAt_5068e 42 = .ok (.aload_n 3, 1) := by decide +kernel
theorem dJ5_charAt_5068e_43 : decode cJ5_charAt_5068e 43 = .ok (.iload_n 1, 1) := by decide +kernel
theorem dJ5_charAt_5068e_44 : decode cJ5_charAt_5068e 44 = .ok (.invokestatic 148, 3) := by decide +kernel
theorem dJ5_charAt_5068e_47 : decode cJ5_charAt_5068e 47 = .ok (.ireturn, 1) := by decide +kernel
theorem dJ5_append_cf1ce_0 : decode cJ5_append_cf1ce 0 = .ok (.aload_n 1, 1) := by decide +kernel
theorem dJ5_append_cf1ce_1 : decode cJ5_append_cf1ce 1 = .ok (.ifnonnull 8, 3) := by decide +kernel
theorem dJ5_append_cf1ce_4 : decode cJ5_append_cf1ce 4 = .ok (.aload_n 0, 1) := by decide +kernel
theorem dJ5_append_cf1ce_5 : decode cJ5_append_cf1ce 5 = .ok (.invokevirtual 204, 3) := by decide +kernel
theorem dJ5_append_cf1ce_8 : decode cJ5_append_cf1ce 8 = .ok (.areturn, 1) := by decide +kernel
theorem dJ5_append_cf1ce_9 : decode cJ5_append_cf1ce 9 = .ok (.aload_n 1, 1) := by decide +kernel
theorem dJ5_append_cf1ce_10 : decode cJ5_append_cf1ce 10 = .ok (.invokevirtual 32, 3) := by decide +kernel
theorem dJ5_append_cf1ce_13 : decode cJ5_append_cf1ce 13 = .ok (.istore_n 2, 1) := by decide +kernel
theorem dJ5_append_cf1ce_14 : decode cJ5_append_cf1ce 14 = .ok (.aload_n 0, 1) := by decide +kernel
theorem dJ5_append_cf1ce_15 : decode cJ5_append_cf1ce 15 = .ok (.aload_n 0, 1) := by decide +kernel
theorem dJ5_append_cf1ce_16 : decode cJ5_append_cf1ce 16 = .ok (.getfield 79, 3) := by decide +kernel
theorem dJ5_append_cf1ce_19 : decode cJ5_append_cf1ce 19 = .ok (.iload_n 2, 1) := by decide +kernel
theorem dJ5_append_cf1ce_20 : decode cJ5_append_cf1ce 20 = .ok (.iadd, 1) := by decide +kernel
theorem dJ5_append_cf1ce_21 : decode cJ5_append_cf1ce 21 = .ok (.invokevirtual 100, 3) := by decide +kernel
theorem dJ5_append_cf1ce_24 : decode cJ5_append_cf1ce 24 = .ok (.aload_n 0, 1) := by decide +kernel
theorem dJ5_append_cf1ce_25 : decode cJ5_append_cf1ce 25 = .ok (.aload_n 0, 1) := by decide +kernel
theorem dJ5_append_cf1ce_26 : decode cJ5_append_cf1ce 26 = .ok (.getfield 79, 3) := by decide +kernel
theorem dJ5_append_cf1ce_29 : decode cJ5_append_cf1ce 29 = .ok (.aload_n 1, 1) := by decide +kernel
theorem dJ5_append_cf1ce_30 : decode cJ5_append_cf1ce 30 = .ok (.invokevirtual 208, 3) := by decide +kernel
theorem dJ5_append_cf1ce_33 : decode cJ5_append_cf1ce 33 = .ok (.aload_n 0, 1) := by decide +kernel
theorem dJ5_append_cf1ce_34 : decode cJ5_append_cf1ce 34 = .ok (.dup, 1) := by decide +kernel
theorem dJ5_append_cf1ce_35 : decode cJ5_append_cf1ce 35 = .ok (.getfield 79, 3) := by decide +kernel
theorem dJ5_append_cf1ce_38 : decode cJ5_append_cf1ce 38 = .ok (.iload_n 2, 1) := by decide +kernel
theorem dJ5_append_cf1ce_39 : decode cJ5_append_cf1ce 39 = .ok (.iadd, 1) := by decide +kernel
theorem dJ5_append_cf1ce_40 : decode cJ5_append_cf1ce 40 = .ok (.putfield 79, 3) := by decide +kernel
theorem dJ5_append_cf1ce_43 : decode cJ5_append_cf1ce 43 = .ok (.aload_n 0, 1) := by decide +kernel
theorem dJ5_append_cf1ce_44 : decode cJ5_append_cf1ce 44 = .ok (.areturn, 1) := by decide +kernel
theorem dJ5_appendNull_278bc_0 : decode cJ5_appendNull_278bc 0 = .ok (.aload_n 0, 1) := by decide +kernel
theorem dJ5_appendNull_278bc_1 : decode cJ5_appendNull_278bc 1 = .ok (.aload_n 0, 1) := by decide +kernel
theorem dJ5_appendNull_278bc_2 : decode cJ5_appendNull_278bc 2 = .ok (.getfield 79, 3) := by decide +kernel
theorem dJ5_appendNull_278bc_5 : decode cJ5_appendNull_278bc 5 = .ok (.iconst 4, 1) := by decide +kernel
theorem dJ5_appendNull_278bc_6 : decode cJ5_appendNull_278bc 6 = .ok (.iadd, 1) := by decide +kernel
theorem dJ5_appendNull_278bc_7 : decode cJ5_appendNull_278bc 7 = .ok (.invokevirtual 100, 3) := by decide +kernel
theorem dJ5_appendNull_278bc_10 : decode cJ5_appendNull_278bc 10 = .ok (.aload_n 0, 1) := by decide +kernel
theorem dJ5_appendNull_278bc_11 : decode cJ5_appendNull_278bc 11 = .ok (.getfield 79, 3) := by decide +kernel
theorem dJ5_appendNull_278bc_14 : decode cJ5_appendNull_278bc 14 = .ok (.istore_n 1, 1) := by decide +kernel
theorem dJ5_appendNull_278bc_15 : decode cJ5_appendNull_278bc 15 = .ok (.aload_n 0, 1) := by decide +kernel
theorem dJ5_appendNull_278bc_16 : decode cJ5_appendNull_278bc 16 = .ok (.getfield 15, 3) := by decide +kernel
theorem dJ5_appendNull_278bc_19 : decode cJ5_appendNull_278bc 19 = .ok (.astore_n 2, 1) := by decide +kernel
theorem dJ5_appendNull_278bc_20 : decode cJ5_appendNull_278bc 20 = .ok (.aload_n 0, 1) := by decide +kernel
theorem dJ5_appendNull_278bc_21 : decode cJ5_appendNull_278bc 21 = .ok (.invokevirtual 83, 3) := by decide +kernel
theorem dJ5_appendNull_278bc_24 : decode cJ5_appendNull_278bc 24 = .ok (.ifCond .eq 38, 3) := by decide +kernel
theorem dJ5_appendNull_278bc_27 : decode cJ5_appendNull_278bc 27 = .ok (.aload_n 2, 1) := by decide +kernel
theorem dJ5_appendNull_278bc_28 : decode cJ5_appendNull_278bc 28 = .ok (.iload_n 1, 1) := by decide +kernel
theorem dJ5_appendNull_278bc_29 : decode cJ5_appendNull_278bc 29 = .ok (.iinc 1 1, 3) := by decide +kernel
theorem dJ5_appendNull_278bc_32 : decode cJ5_appendNull_278bc 32 = .ok (.bipush 110, 2) := by decide +kernel
theorem dJ5_appendNull_278bc_34 : decode cJ5_appendNull_278bc 34 = .ok (.bastore, 1) := by decide +kernel
theorem dJ5_appendNull_278bc_35 : decode cJ5_appendNull_278bc 35 = .ok (.aload_n 2, 1) := by decide +kernel
theorem dJ5_appendNull_278bc_36 : decode cJ5_appendNull_278bc 36 = .ok (.iload_n 1, 1) := by decide +kernel
theorem dJ5_appendNull_278bc_37 : decode cJ5_appendNull_278bc 37 = .ok (.iinc 1 1, 3) := by decide +kernel
theorem dJ5_appendNull_278bc_40 : decode cJ5_appendNull_278bc 40 = .ok (.bipush 117, 2) := by decide +kernel
theorem dJ5_appendNull_278bc_42 : decode cJ5_appendNull_278bc 42 = .ok (.bastore, 1) := by decide +kernel
theorem dJ5_appendNull_278bc_43 : decode cJ5_appendNull_278bc 43 = .ok (.aload_n 2, 1) := by decide +kernel
theorem dJ5_appendNull_278bc_44 : decode cJ5_appendNull_278bc 44 = .ok (.iload_n 1, 1) := by decide +kernel
theorem dJ5_appendNull_278bc_45 : decode cJ5_appendNull_278bc 45 = .ok (.iinc 1 1, 3) := by decide +kernel
theorem dJ5_appendNull_278bc_48 : decode cJ5_appendNull_278bc 48 = .ok (.bipush 108, 2) := by decide +kernel
theorem dJ5_appendNull_278bc_50 : decode cJ5_appendNull_278bc 50 = .ok (.bastore, 1) := by decide +kernel
theorem dJ5_appendNull_278bc_51 : decode cJ5_appendNull_278bc 51 = .ok (.aload_n 2, 1) := by decide +kernel
theorem dJ5_appendNull_278bc_52 : decode cJ5_appendNull_278bc 52 = .ok (.iload_n 1, 1) := by decide +kernel
theorem dJ5_appendNull_278bc_53 : decode cJ5_appendNull_278bc 53 = .ok (.iinc 1 1, 3) := by decide +kernel
theorem dJ5_appendNull_278bc_56 : decode cJ5_appendNull_278bc 56 = .ok (.bipush 108, 2) := by decide +kernel
theorem dJ5_appendNull_278bc_58 : decode cJ5_appendNull_278bc 58 = .ok (.bastore, 1) := by decide +kernel
theorem dJ5_appendNull_278bc_59 : decode cJ5_appendNull_278bc 59 = .ok (.goto 17, 3) := by decide +kernel
theorem dJ5_appendNull_278bc_62 : decode cJ5_appendNull_278bc 62 = .ok (.aload_n 2, 1) := by decide +kernel
theorem dJ5_appendNull_278bc_63 : decode cJ5_appendNull_278bc 63 = .ok (.iload_n 1, 1) := by decide +kernel
theorem dJ5_appendNull_278bc_64 : decode cJ5_appendNull_278bc 64 = .ok (.bipush 110, 2) := by decide +kernel
theorem dJ5_appendNull_278bc_66 : decode cJ5_appendNull_278bc 66 = .ok (.bipush 117, 2) := by decide +kernel
theorem dJ5_appendNull_278bc_68 : decode cJ5_appendNull_278bc 68 = .ok (.bipush 108, 2) := by decide +kernel
theorem dJ5_appendNull_278bc_70 : decode cJ5_appendNull_278bc 70 = .ok (.bipush 108, 2) := by decide +kernel
theorem dJ5_appendNull_278bc_72 : decode cJ5_appendNull_278bc 72 = .ok (.invokestatic 226, 3) := by decide +kernel
theorem dJ5_appendNull_278bc_75 : decode cJ5_appendNull_278bc 75 = .ok (.istore_n 1, 1) := by decide +kernel
theorem dJ5_appendNull_278bc_76 : decode cJ5_appendNull_278bc 76 = .ok (.aload_n 0, 1) := by decide +kernel
theorem dJ5_appendNull_278bc_77 : decode cJ5_appendNull_278bc 77 = .ok (.iload_n 1, 1) := by decide +kernel
theorem dJ5_appendNull_278bc_78 : decode cJ5_appendNull_278bc 78 = .ok (.putfield 79, 3) := by decide +kernel
theorem dJ5_appendNull_278bc_81 : decode cJ5_appendNull_278bc 81 = .ok (.aload_n 0, 1) := by decide +kernel
theorem dJ5_appendNull_278bc_82 : decode cJ5_appendNull_278bc 82 = .ok (.areturn, 1) := by decide +kernel
theorem dJ5_append_3fe6f_0 : decode cJ5_append_3fe6f 0 = .ok (.aload_n 0, 1) := by decide +kernel
theorem dJ5_append_3fe6f_1 : decode cJ5_append_3fe6f 1 = .ok (.aload_n 0, 1) := by decide +kernel
theorem dJ5_append_3fe6f_2 : decode cJ5_append_3fe6f 2 = .ok (.getfield 79, 3) := by decide +kernel
theorem dJ5_append_3fe6f_5 : decode cJ5_append_3fe6f 5 = .ok (.iconst 1, 1) := by decide +kernel
theorem dJ5_append_3fe6f_6 : decode cJ5_append_3fe6f 6 = .ok (.iadd, 1) := by decide +kernel
theorem dJ5_append_3fe6f_7 : decode cJ5_append_3fe6f 7 = .ok (.invokevirtual 100, 3) := by decide +kernel
theorem dJ5_append_3fe6f_10 : decode cJ5_append_3fe6f 10 = .ok (.aload_n 0, 1) := by decide +kernel
theorem dJ5_append_3fe6f_11 : decode cJ5_append_3fe6f 11 = .ok (.invokevirtual 83, 3) := by decide +kernel
theorem dJ5_append_3fe6f_14 : decode cJ5_append_3fe6f 14 = .ok (.ifCond .eq 31, 3) := by decide +kernel
theorem dJ5_append_3fe6f_17 : decode cJ5_append_3fe6f 17 = .ok (.iload_n 1, 1) := by decide +kernel
theorem dJ5_append_3fe6f_18 : decode cJ5_append_3fe6f 18 = .ok (.invokestatic 191, 3) := by decide +kernel
theorem dJ5_append_3fe6f_21 : decode cJ5_append_3fe6f 21 = .ok (.ifCond .eq 24, 3) := by decide +kernel
theorem dJ5_append_3fe6f_24 : decode cJ5_append_3fe6f 24 = .ok (.aload_n 0, 1) := by decide +kernel
theorem dJ5_append_3fe6f_25 : decode cJ5_append_3fe6f 25 = .ok (.getfield 15, 3) := by decide +kernel
theorem dJ5_append_3fe6f_28 : decode cJ5_append_3fe6f 28 = .ok (.aload_n 0, 1) := by decide +kernel
theorem dJ5_append_3fe6f_29 : decode cJ5_append_3fe6f 29 = .ok (.dup, 1) := by decide +kernel
theorem dJ5_append_3fe6f_30 : decode cJ5_append_3fe6f 30 = .ok (.getfield 79, 3) := by decide +kernel
theorem dJ5_append_3fe6f_33 : decode cJ5_append_3fe6f 33 = .ok (.dup_x1, 1) := by decide +kernel
theorem dJ5_append_3fe6f_34 : decode cJ5_append_3fe6f 34 = .ok (.iconst 1, 1) := by decide +kernel
theorem dJ5_append_3fe6f_35 : decode cJ5_append_3fe6f 35 = .ok (.iadd, 1) := by decide +kernel
theorem dJ5_append_3fe6f_36 : decode cJ5_append_3fe6f 36 = .ok (.putfield 79, 3) := by decide +kernel
theorem dJ5_append_3fe6f_39 : decode cJ5_append_3fe6f 39 = .ok (.iload_n 1, 1) := by decide +kernel
theorem dJ5_append_3fe6f_40 : decode cJ5_append_3fe6f 40 = .ok (.i2b, 1) := by decide +kernel
theorem dJ5_append_3fe6f_41 : decode cJ5_append_3fe6f 41 = .ok (.bastore, 1) := by decide +kernel
theorem dJ5_append_3fe6f_42 : decode cJ5_append_3fe6f 42 = .ok (.goto 33, 3) := by decide +kernel
theorem dJ5_append_3fe6f_45 : decode cJ5_append_3fe6f 45 = .ok (.aload_n 0, 1) := by decide +kernel
theorem dJ5_append_3fe6f_46 : decode cJ5_append_3fe6f 46 = .ok (.invokevirtual 83, 3) := by decide +kernel
theorem dJ5_append_3fe6f_49 : decode cJ5_append_3fe6f 49 = .ok (.ifCond .eq 7, 3) := by decide +kernel
theorem dJ5_append_3fe6f_52 : decode cJ5_append_3fe6f 52 = .ok (.aload_n 0, 1) := by decide +kernel
theorem dJ5_append_3fe6f_53 : decode cJ5_append_3fe6f 53 = .ok (.invokevirtual 195, 3) := by decide +kernel
theorem dJ5_append_3fe6f_56 : decode cJ5_append_3fe6f 56 = .ok (.aload_n 0, 1) := by decide +kernel
theorem dJ5_append_3fe6f_57 : decode cJ5_append_3fe6f 57 = .ok (.getfield 15, 3) := by decide +kernel
theorem dJ5_append_3fe6f_60 : decode cJ5_append_3fe6f 60 = .ok (.aload_n 0, 1) := by decide +kernel
theorem dJ5_append_3fe6f_61 : decode cJ5_append_3fe6f 61 = .ok (.dup, 1) := by decide +kernel
theorem dJ5_append_3fe6f_62 : decode cJ5_append_3fe6f 62 = .ok (.getfield 79, 3) := by decide +kernel
theorem dJ5_append_3fe6f_65 : decode cJ5_append_3fe6f 65 = .ok (.dup_x1, 1) := by decide +kernel
theorem dJ5_append_3fe6f_66 : decode cJ5_append_3fe6f 66 = .ok (.iconst 1, 1) := by decide +kernel
theorem dJ5_append_3fe6f_67 : decode cJ5_append_3fe6f 67 = .ok (.iadd, 1) := by decide +kernel
theorem dJ5_append_3fe6f_68 : decode cJ5_append_3fe6f 68 = .ok (.putfield 79, 3) := by decide +kernel
theorem dJ5_append_3fe6f_71 : decode cJ5_append_3fe6f 71 = .ok (.iload_n 1, 1) := by decide +kernel
theorem dJ5_append_3fe6f_72 : decode cJ5_append_3fe6f 72 = .ok (.invokestatic 197, 3) := by decide +kernel
theorem dJ5_append_3fe6f_75 : decode cJ5_append_3fe6f 75 = .ok (.aload_n 0, 1) := by decide +kernel
theorem dJ5_append_3fe6f_76 : decode cJ5_append_3fe6f 76 = .ok (.areturn, 1) := by decide +kernel
theorem dJ5_append_c97b9_0 : decode cJ5_append_c97b9 0 = .ok (.aload_n 0, 1) := by decide +kernel
theorem dJ5_append_c97b9_1 : decode cJ5_append_c97b9 1 = .ok (.getfield 79, 3) := by decide +kernel
theorem dJ5_append_c97b9_4 : decode cJ5_append_c97b9 4 = .ok (.istore_n 2, 1) := by decide +kernel
theorem dJ5_append_c97b9_5 : decode cJ5_append_c97b9 5 = .ok (.iload_n 2, 1) := by decide +kernel
theorem dJ5_append_c97b9_6 : decode cJ5_append_c97b9 6 = .ok (.iload_n 1, 1) := by decide +kernel
theorem dJ5_append_c97b9_7 : decode cJ5_append_c97b9 7 = .ok (.invokestatic 245, 3) := by decide +kernel
theorem dJ5_append_c97b9_10 : decode cJ5_append_c97b9 10 = .ok (.iadd, 1) := by decide +kernel
theorem dJ5_append_c97b9_11 : decode cJ5_append_c97b9 11 = .ok (.istore_n 3, 1) := by decide +kernel
theorem dJ5_append_c97b9_12 : decode cJ5_append_c97b9 12 = .ok (.aload_n 0, 1) := by decide +kernel
theorem dJ5_append_c97b9_13 : decode cJ5_append_c97b9 13 = .ok (.iload_n 3, 1) := by decide +kernel
theorem dJ5_append_c97b9_14 : decode cJ5_append_c97b9 14 = .ok (.invokevirtual 100, 3) := by decide +kernel
theorem dJ5_append_c97b9_17 : decode cJ5_append_c97b9 17 = .ok (.aload_n 0, 1) := by decide +kernel
theorem dJ5_append_c97b9_18 : decode cJ5_append_c97b9 18 = .ok (.invokevirtual 83, 3) := by decide +kernel
theorem dJ5_append_c97b9_21 : decode cJ5_append_c97b9 21 = .ok (.ifCond .eq 16, 3) := by decide +kernel
theorem dJ5_append_c97b9_24 : decode cJ5_append_c97b9 24 = .ok (.iload_n 1, 1) := by decide +kernel
theorem dJ5_append_c97b9_25 : decode cJ5_append_c97b9 25 = .ok (.iload_n 3, 1) := by decide +kernel
theorem dJ5_append_c97b9_26 : decode cJ5_append_c97b9 26 = .ok (.aload_n 0, 1) := by decide +kernel
theorem dJ5_append_c97b9_27 : decode cJ5_append_c97b9 27 = .ok (.getfield 15, 3) := by decide +kernel
theorem dJ5_append_c97b9_30 : decode cJ5_append_c97b9 30 = .ok (.invokestatic 248, 3) := by decide +kernel
theorem dJ5_append_c97b9_33 : decode cJ5_append_c97b9 33 = .ok (.pop, 1) := by decide +kernel
theorem dJ5_append_c97b9_34 : decode cJ5_append_c97b9 34 = .ok (.goto 14, 3) := by decide +kernel
theorem dJ5_append_c97b9_37 : decode cJ5_append_c97b9 37 = .ok (.iload_n 1, 1) := by decide +kernel
theorem dJ5_append_c97b9_38 : decode cJ5_append_c97b9 38 = .ok (.iload_n 2, 1) := by decide +kernel
theorem dJ5_append_c97b9_39 : decode cJ5_append_c97b9 39 = .ok (.iload_n 3, 1) := by decide +kernel
theorem dJ5_append_c97b9_40 : decode cJ5_append_c97b9 40 = .ok (.aload_n 0, 1) := by decide +kernel
theorem dJ5_append_c97b9_41 : decode cJ5_append_c97b9 41 = .ok (.getfield 15, 3) := by decide +kernel
theorem dJ5_append_c97b9_44 : decode cJ5_append_c97b9 44 = .ok (.invokestatic 251, 3) := by decide +kernel
theorem dJ5_append_c97b9_47 : decode cJ5_append_c97b9 47 = .ok (.pop, 1) := by decide +kernel
theorem dJ5_append_c97b9_48 : decode cJ5_append_c97b9 48 = .ok (.aload_n 0, 1) := by decide +kernel
theorem dJ5_append_c97b9_49 : decode cJ5_append_c97b9 49 = .ok (.iload_n 3, 1) := by decide +kernel
theorem dJ5_append_c97b9_50 : decode cJ5_append_c97b9 50 = .ok (.putfield 79, 3) := by decide +kernel
theorem dJ5_append_c97b9_53 : decode cJ5_append_c97b9 53 = .ok (.aload_n 0, 1) := by decide +kernel
theorem dJ5_append_c97b9_54 : decode cJ5_append_c97b9 54 = .ok (.areturn, 1) := by decide +kernel
theorem dJ5_getValue_6d5f1_0 : decode cJ5_getValue_6d5f1 0 = .ok (.aload_n 0, 1) := by decide +kernel
theorem dJ5_getValue_6d5f1_1 : decode cJ5_getValue_6d5f1 1 = .ok (.getfield 15, 3) := by decide +kernel
theorem dJ5_getValue_6d5f1_4 : decode cJ5_getValue_6d5f1 4 = .ok (.areturn, 1) := by decide +kernel
theorem dJ5_isLatin1_aae02_0 : decode cJ5_isLatin1_aae02 0 = .ok (.getstatic 18, 3) := by decide +kernel
theorem dJ5_isLatin1_aae02_3 : decode cJ5_isLatin1_aae02 3 = .ok (.ifCond .eq 14, 3) := by decide +kernel
theorem dJ5_isLatin1_aae02_6 : decode cJ5_isLatin1_aae02 6 = .ok (.aload_n 0, 1) := by decide +kernel
theorem dJ5_isLatin1_aae02_7 : decode cJ5_isLatin1_aae02 7 = .ok (.getfield 22, 3) := by decide +kernel
theorem dJ5_isLatin1_aae02_10 : decode cJ5_isLatin1_aae02 10 = .ok (.ifCond .ne 7, 3) := by decide +kernel
theorem dJ5_isLatin1_aae02_13 : decode cJ5_isLatin1_aae02 13 = .ok (.iconst 1, 1) := by decide +kernel
theorem dJ5_isLatin1_aae02_14 : decode cJ5_isLatin1_aae02 14 = .ok (.goto 4, 3) := by decide +kernel
theorem dJ5_isLatin1_aae02_17 : decode cJ5_isLatin1_aae02 17 = .ok (.iconst 0, 1) := by decide +kernel
theorem dJ5_isLatin1_aae02_18 : decode cJ5_isLatin1_aae02 18 = .ok (.ireturn, 1) := by decide +kernel
theorem dJ5_inflateIfNeededFor_a7421_0 : decode cJ5_inflateIfNeededFor_a7421 0 = .ok (.getstatic 18, 3) := by decide +kernel
theorem dJ5_inflateIfNeededFor_a7421_3 : decode cJ5_inflateIfNeededFor_a7421 3 = .ok (.ifCond .eq 18, 3) := by decide +kernel
theorem dJ5_inflateIfNeededFor_a7421_6 : decode cJ5_inflateIfNeededFor_a7421 6 = .ok (.aload_n 0, 1) := by decide +kernel
theorem dJ5_inflateIfNeededFor_a7421_7 : decode cJ5_inflateIfNeededFor_a7421 7 = .ok (.getfield 22, 3) := by decide +kernel
theorem dJ5_inflateIfNeededFor_a7421_10 : decode cJ5_inflateIfNeededFor_a7421 10 = .ok (.aload_n 1, 1) := by decide +kernel
theorem dJ5_inflateIfNeededFor_a7421_11 : decode cJ5_inflateIfNeededFor_a7421 11 = .ok (.invokevirtual 40, 3) := by decide +kernel
theorem dJ5_inflateIfNeededFor_a7421_14 : decode cJ5_inflateIfNeededFor_a7421 14 = .ok (.if_icmp .eq 7, 3) := by decide +kernel
theorem dJ5_inflateIfNeededFor_a7421_17 : decode cJ5_inflateIfNeededFor_a7421 17 = .ok (.aload_n 0, 1) := by decide +kernel
theorem dJ5_inflateIfNeededFor_a7421_18 : decode cJ5_inflateIfNeededFor_a7421 18 = .ok (.invokevirtual 195, 3) := by decide +kernel
theorem dJ5_inflateIfNeededFor_a7421_21 : decode cJ5_inflateIfNeededFor_a7421 21 = .ok (.return_, 1) := by decide +kernel
theorem dJ5_putStringAt_47b60_0 : decode cJ5_putStringAt_47b60 0 = .ok (.aload_n 0, 1) := by decide +kernel
theorem dJ5_putStringAt_47b60_1 : decode cJ5_putStringAt_47b60 1 = .ok (.aload_n 2, 1) := by decide +kernel
theorem dJ5_putStringAt_47b60_2 : decode cJ5_putStringAt_47b60 2 = .ok (.invokevirtual 397, 3) := by decide +kernel
theorem dJ5_putStringAt_47b60_5 : decode cJ5_putStringAt_47b60 5 = .ok (.aload_n 2, 1) := by decide +kernel
theorem dJ5_putStringAt_47b60_6 : decode cJ5_putStringAt_47b60 6 = .ok (.aload_n 0, 1) := by decide +kernel
theorem dJ5_putStringAt_47b60_7 : decode cJ5_putStringAt_47b60 7 = .ok (.getfield 15, 3) := by decide +kernel
theorem dJ5_putStringAt_47b60_10 : decode cJ5_putStringAt_47b60 10 = .ok (.iload_n 1, 1) := by decide +kernel
theorem dJ5_putStringAt_47b60_11 : decode cJ5_putStringAt_47b60 11 = .ok (.aload_n 0, 1) := by decide +kernel
theorem dJ5_putStringAt_47b60_12 : decode cJ5_putStringAt_47b60 12 = .ok (.getfield 22, 3) := by decide +kernel
theorem dJ5_putStringAt_47b60_15 : decode cJ5_putStringAt_47b60 15 = .ok (.invokevirtual 399, 3) := by decide +kernel
theorem dJ5_putStringAt_47b60_18 : decode cJ5_putStringAt_47b60 18 = .ok (.return_, 1) := by decide +kernel
theorem dJx00060_init_d00df_0 : decode cJx00060_init_d00df 0 = .ok (.aload_n 0, 1) := by decide +kernel
theorem dJx00060_init_d00df_1 : decode cJx00060_init_d00df 1 = .ok (.new 10, 3) := by decide +kernel
theorem dJx00060_init_d00df_4 : decode cJx00060_init_d00df 4 = .ok (.dup, 1) := by decide +kernel
theorem dJx00060_init_d00df_5 : decode cJx00060_init_d00df 5 = .ok (.invokespecial 12, 3) := by decide +kernel
theorem dJx00060_init_d00df_8 : decode cJx00060_init_d00df 8 = .ok (.ldc 13, 2) := by decide +kernel
theorem dJx00060_init_d00df_10 : decode cJx00060_init_d00df 10 = .ok (.invokevirtual 15, 3) := by decide +kernel
theorem dJx00060_init_d00df_13 : decode cJx00060_init_d00df 13 = .ok (.iload_n 1, 1) := by decide +kernel
theorem dJx00060_init_d00df_14 : decode cJx00060_init_d00df 14 = .ok (.invokevirtual 19, 3) := by decide +kernel
theorem dJx00060_init_d00df_17 : decode cJx00060_init_d00df 17 = .ok (.invokevirtual 22, 3) := by decide +kernel
theorem dJx00060_init_d00df_20 : decode cJx00060_init_d00df 20 = .ok (.invokespecial 7, 3) := by decide +kernel
theorem dJx00060_init_d00df_23 : decode cJx00060_init_d00df 23 = .ok (.return_, 1) := by decide +kernel
theorem dJ6_getChars_ba4f3_0 : decode cJ6_getChars_ba4f3 0 = .ok (.iload_n 1, 1) := by decide +kernel
theorem dJ6_getChars_ba4f3_1 : decode cJ6_getChars_ba4f3 1 = .ok (.istore 5, 2) := by decide +kernel
theorem dJ6_getChars_ba4f3_3 : decode cJ6_getChars_ba4f3 3 = .ok (.iload_n 0, 1) := by decide +kernel
theorem dJ6_getChars_ba4f3_4 : decode cJ6_getChars_ba4f3 4 = .ok (.ifCond .ge 7, 3) := by decide +kernel
theorem dJ6_getChars_ba4f3_7 : decode cJ6_getChars_ba4f3 7 = .ok (.iconst 1, 1) := by decide +kernel
theorem dJ6_getChars_ba4f3_8 : decode cJ6_getChars_ba4f3 8 = .ok (.goto 4, 3) := by decide +kernel
theorem dJ6_getChars_ba4f3_11 : decode cJ6_getChars_ba4f3 11 = .ok (.iconst 0, 1) := by decide +kernel
theorem dJ6_getChars_ba4f3_12 : decode cJ6_getChars_ba4f3 12 = .ok (.istore 6, 2) := by decide +kernel
theorem dJ6_getChars_ba4f3_14 : decode cJ6_getChars_ba4f3 14 = .ok (.iload 6, 2) := by decide +kernel
theorem dJ6_getChars_ba4f3_16 : decode cJ6_getChars_ba4f3 16 = .ok (.ifCond .ne 6, 3) := by decide +kernel
theorem dJ6_getChars_ba4f3_19 : decode cJ6_getChars_ba4f3 19 = .ok (.iload_n 0, 1) := by decide +kernel
theorem dJ6_getChars_ba4f3_20 : decode cJ6_getChars_ba4f3 20 = .ok (.ineg, 1) := by decide +kernel
theorem dJ6_getChars_ba4f3_21 : decode cJ6_getChars_ba4f3 21 = .ok (.istore_n 0, 1) := by decide +kernel
theorem dJ6_getChars_ba4f3_22 : decode cJ6_getChars_ba4f3 22 = .ok (.iload_n 0, 1) := by decide +kernel
theorem dJ6_getChars_ba4f3_23 : decode cJ6_getChars_ba4f3 23 = .ok (.bipush (-100), 2) := by decide +kernel
theorem dJ6_getChars_ba4f3_25 : decode cJ6_getChars_ba4f3 25 = .ok (.if_icmp .gt 47, 3) := by decide +kernel
theorem dJ6_getChars_ba4f3_28 : decode cJ6_getChars_ba4f3 28 = .ok (.iload_n 0, 1) := by decide +kernel
theorem dJ6_getChars_ba4f3_29 : decode cJ6_getChars_ba4f3 29 = .ok (.bipush 100, 2) := by decide +kernel
theorem dJ6_getChars_ba4f3_31 : decode cJ6_getChars_ba4f3 31 = .ok (.idiv, 1) := by decide +kernel
theorem dJ6_getChars_ba4f3_32 : decode cJ6_getChars_ba4f3 32 = .ok (.istore_n 3, 1) := by decide +kernel
theorem dJ6_getChars_ba4f3_33 : decode cJ6_getChars_ba4f3 33 = .ok (.iload_n 3, 1) := by decide +kernel
theorem dJ6_getChars_ba4f3_34 : decode cJ6_getChars_ba4f3 34 = .ok (.bipush 100, 2) := by decide +kernel
theorem dJ6_getChars_ba4f3_36 : decode cJ6_getChars_ba4f3 36 = .ok (.imul, 1) := by decide +kernel
theorem dJ6_getChars_ba4f3_37 : decode cJ6_getChars_ba4f3 37 = .ok (.iload_n 0, 1) := by decide +kernel
theorem dJ6_getChars_ba4f3_38 : decode cJ6_getChars_ba4f3 38 = .ok (.isub, 1) := by decide +kernel
theorem dJ6_getChars_ba4f3_39 : decode cJ6_getChars_ba4f3 39 = .ok (.istore 4, 2) := by decide +kernel
theorem dJ6_getChars_ba4f3_41 : decode cJ6_getChars_ba4f3 41 = .ok (.iload_n 3, 1) := by decide +kernel
theorem dJ6_getChars_ba4f3_42 : decode cJ6_getChars_ba4f3 42 = .ok (.istore_n 0, 1) := by decide +kernel
theorem dJ6_getChars_ba4f3_43 : decode cJ6_getChars_ba4f3 43 = .ok (.aload_n 2, 1) := by decide +kernel
theorem dJ6_getChars_ba4f3_44 : decode cJ6_getChars_ba4f3 44 = .ok (.iinc 5 (-1), 3) := by decide +kernel
theorem dJ6_getChars_ba4f3_47 : decode cJ6_getChars_ba4f3 47 = .ok (.iload 5, 2) := by decide +kernel
theorem dJ6_getChars_ba4f3_49 : decode cJ6_getChars_ba4f3 49 = .ok (.getstatic 83, 3) := by decide +kernel
theorem dJ6_getChars_ba4f3_52 : decode cJ6_getChars_ba4f3 52 = .ok (.iload 4, 2) := by decide +kernel
theorem dJ6_getChars_ba4f3_54 : decode cJ6_getChars_ba4f3 54 = .ok (.baload, 1) := by decide +kernel
theorem dJ6_getChars_ba4f3_55 : decode cJ6_getChars_ba4f3 55 = .ok (.bastore, 1) := by decide +kernel
theorem dJ6_getChars_ba4f3_56 : decode cJ6_getChars_ba4f3 56 = .ok (.aload_n 2, 1) := by decide +kernel
theorem dJ6_getChars_ba4f3_57 : decode cJ6_getChars_ba4f3 57 = .ok (.iinc 5 (-1), 3) := by decide +kernel
theorem dJ6_getChars_ba4f3_60 : decode cJ6_getChars_ba4f3 60 = .ok (.iload 5, 2) := by decide +kernel
theorem dJ6_getChars_ba4f3_62 : decode cJ6_getChars_ba4f3 62 = .ok (.getstatic 87, 3) := by decide +kernel
theorem dJ6_getChars_ba4f3_65 : decode cJ6_getChars_ba4f3 65 = .ok (.iload 4, 2) := by decide +kernel
theorem dJ6_getChars_ba4f3_67 : decode cJ6_getChars_ba4f3 67 = .ok (.baload, 1) := by decide +kernel
theorem dJ6_getChars_ba4f3_68 : decode cJ6_getChars_ba4f3 68 = .ok (.bastore, 1) := by decide +kernel
theorem dJ6_getChars_ba4f3_69 : decode cJ6_getChars_ba4f3 69 = .ok (.goto (-47), 3) := by decide +kernel
theorem dJ6_getChars_ba4f3_72 : decode cJ6_getChars_ba4f3 72 = .ok (.aload_n 2, 1) := by decide +kernel
theorem dJ6_getChars_ba4f3_73 : decode cJ6_getChars_ba4f3 73 = .ok (.iinc 5 (-1), 3) := by decide +kernel
theorem dJ6_getChars_ba4f3_76 : decode cJ6_getChars_ba4f3 76 = .ok (.iload 5, 2) := by decide +kernel
theorem dJ6_getChars_ba4f3_78 : decode cJ6_getChars_ba4f3 78 = .ok (.getstatic 83, 3) := by decide +kernel
theorem dJ6_getChars_ba4f3_81 : decode cJ6_getChars_ba4f3 81 = .ok (.iload_n 0, 1) := by decide +kernel
theorem dJ6_getChars_ba4f3_82 : decode cJ6_getChars_ba4f3 82 = .ok (.ineg, 1) := by decide +kernel
theorem dJ6_getChars_ba4f3_83 : decode cJ6_getChars_ba4f3 83 = .ok (.baload, 1) := by decide +kernel
theorem dJ6_getChars_ba4f3_84 : decode cJ6_getChars_ba4f3 84 = .ok (.bastore, 1) := by decide +kernel
theorem dJ6_getChars_ba4f3_85 : decode cJ6_getChars_ba4f3 85 = .ok (.iload_n 0, 1) := by decide +kernel
theorem dJ6_getChars_ba4f3_86 : decode cJ6_getChars_ba4f3 86 = .ok (.bipush (-9), 2) := by decide +kernel
theorem dJ6_getChars_ba4f3_88 : decode cJ6_getChars_ba4f3 88 = .ok (.if_icmp .ge 16, 3) := by decide +kernel
theorem dJ6_getChars_ba4f3_91 : decode cJ6_getChars_ba4f3 91 = .ok (.aload_n 2, 1) := by decide +kernel
theorem dJ6_getChars_ba4f3_92 : decode cJ6_getChars_ba4f3 92 = .ok (.iinc 5 (-1), 3) := by decide +kernel
theorem dJ6_getChars_ba4f3_95 : decode cJ6_getChars_ba4f3 95 = .ok (.iload 5, 2) := by decide +kernel
theorem dJ6_getChars_ba4f3_97 : decode cJ6_getChars_ba4f3 97 = .ok (.getstatic 87, 3) := by decide +kernel
theorem dJ6_getChars_ba4f3_100 : decode cJ6_getChars_ba4f3 100 = .ok (.iload_n 0, 1) := by decide +kernel
theorem dJ6_getChars_ba4f3_101 : decode cJ6_getChars_ba4f3 101 = .ok (.ineg, 1) := by decide +kernel
theorem dJ6_getChars_ba4f3_102 : decode cJ6_getChars_ba4f3 102 = .ok (.baload, 1) := by decide +kernel
theorem dJ6_getChars_ba4f3_103 : decode cJ6_getChars_ba4f3 103 = .ok (.bastore, 1) := by decide +kernel
theorem dJ6_getChars_ba4f3_104 : decode cJ6_getChars_ba4f3 104 = .ok (.iload 6, 2) := by decide +kernel
theorem dJ6_getChars_ba4f3_106 : decode cJ6_getChars_ba4f3 106 = .ok (.ifCond .eq 12, 3) := by decide +kernel
theorem dJ6_getChars_ba4f3_109 : decode cJ6_getChars_ba4f3 109 = .ok (.aload_n 2, 1) := by decide +kernel
theorem dJ6_getChars_ba4f3_110 : decode cJ6_getChars_ba4f3 110 = .ok (.iinc 5 (-1), 3) := by decide +kernel
theorem dJ6_getChars_ba4f3_113 : decode cJ6_getChars_ba4f3 113 = .ok (.iload 5, 2) := by decide +kernel
theorem dJ6_getChars_ba4f3_115 : decode cJ6_getChars_ba4f3 115 = .ok (.bipush 45, 2) := by decide +kernel
theorem dJ6_getChars_ba4f3_117 : decode cJ6_getChars_ba4f3 117 = .ok (.bastore, 1) := by decide +kernel
theorem dJ6_getChars_ba4f3_118 : decode cJ6_getChars_ba4f3 118 = .ok (.iload 5, 2) := by decide +kernel
theorem dJ6_getChars_ba4f3_120 : decode cJ6_getChars_ba4f3 120 = .ok (.ireturn, 1) := by decide +kernel
theorem dJ6_stringSize_0f7a4_0 : decode cJ6_stringSize_0f7a4 0 = .ok (.iconst 1, 1) := by decide +kernel
theorem dJ6_stringSize_0f7a4_1 : decode cJ6_stringSize_0f7a4 1 = .ok (.istore_n 1, 1) := by decide +kernel
theorem dJ6_stringSize_0f7a4_2 : decode cJ6_stringSize_0f7a4 2 = .ok (.iload_n 0, 1) := by decide +kernel
theorem dJ6_stringSize_0f7a4_3 : decode cJ6_stringSize_0f7a4 3 = .ok (.ifCond .lt 8, 3) := by decide +kernel
theorem dJ6_stringSize_0f7a4_6 : decode cJ6_stringSize_0f7a4 6 = .ok (.iconst 0, 1) := by decide +kernel
theorem dJ6_stringSize_0f7a4_7 : decode cJ6_stringSize_0f7a4 7 = .ok (.istore_n 1, 1) := by decide +kernel
theorem dJ6_stringSize_0f7a4_8 : decode cJ6_stringSize_0f7a4 8 = .ok (.iload_n 0, 1) := by decide +kernel
theorem dJ6_stringSize_0f7a4_9 : decode cJ6_stringSize_0f7a4 9 = .ok (.ineg, 1) := by decide +kernel
theorem dJ6_stringSize_0f7a4_10 : decode cJ6_stringSize_0f7a4 10 = .ok (.istore_n 0, 1) := by decide +kernel
theorem dJ6_stringSize_0f7a4_11 : decode cJ6_stringSize_0f7a4 11 = .ok (.bipush (-10), 2) := by decide +kernel
theorem dJ6_stringSize_0f7a4_13 : decode cJ6_stringSize_0f7a4 13 = .ok (.istore_n 2, 1) := by decide +kernel
theorem dJ6_stringSize_0f7a4_14 : decode cJ6_stringSize_0f7a4 14 = .ok (.iconst 1, 1) := by decide +kernel
theorem dJ6_stringSize_0f7a4_15 : decode cJ6_stringSize_0f7a4 15 = .ok (.istore_n 3, 1) := by decide +kernel
theorem dJ6_stringSize_0f7a4_16 : decode cJ6_stringSize_0f7a4 16 = .ok (.iload_n 3, 1) := by decide +kernel
theorem dJ6_stringSize_0f7a4_17 : decode cJ6_stringSize_0f7a4 17 = .ok (.bipush 10, 2) := by decide +kernel
theorem dJ6_stringSize_0f7a4_19 : decode cJ6_stringSize_0f7a4 19 = .ok (.if_icmp .ge 23, 3) := by decide +kernel
theorem dJ6_stringSize_0f7a4_22 : decode cJ6_stringSize_0f7a4 22 = .ok (.iload_n 0, 1) := by decide +kernel
theorem dJ6_stringSize_0f7a4_23 : decode cJ6_stringSize_0f7a4 23 = .ok (.iload_n 2, 1) := by decide +kernel
theorem dJ6_stringSize_0f7a4_24 : decode cJ6_stringSize_0f7a4 24 = .ok (.if_icmp .le 7, 3) := by decide +kernel
theorem dJ6_stringSize_0f7a4_27 : decode cJ6_stringSize_0f7a4 27 = .ok (.iload_n 3, 1) := by decide +kernel
theorem dJ6_stringSize_0f7a4_28 : decode cJ6_stringSize_0f7a4 28 = .ok (.iload_n 1, 1) := by decide +kernel
theorem dJ6_stringSize_0f7a4_29 : decode cJ6_stringSize_0f7a4 29 = .ok (.iadd, 1) := by decide +kernel
theorem dJ6_stringSize_0f7a4_30 : decode cJ6_stringSize_0f7a4 30 = .ok (.ireturn, 1) := by decide +kernel
theorem dJ6_stringSize_0f7a4_31 : decode cJ6_stringSize_0f7a4 31 = .ok (.bipush 10, 2) := by decide +kernel
theorem dJ6_stringSize_0f7a4_33 : decode cJ6_stringSize_0f7a4 33 = .ok (.iload_n 2, 1) := by decide +kernel
theorem dJ6_stringSize_0f7a4_34 : decode cJ6_stringSize_0f7a4 34 = .ok (.imul, 1) := by decide +kernel
theorem dJ6_stringSize_0f7a4_35 : decode cJ6_stringSize_0f7a4 35 = .ok (.istore_n 2, 1) := by decide +kernel
theorem dJ6_stringSize_0f7a4_36 : decode cJ6_stringSize_0f7a4 36 = .ok (.iinc 3 1, 3) := by decide +kernel
theorem dJ6_stringSize_0f7a4_39 : decode cJ6_stringSize_0f7a4 39 = .ok (.goto (-23), 3) := by decide +kernel
theorem dJ6_stringSize_0f7a4_42 : decode cJ6_stringSize_0f7a4 42 = .ok (.bipush 10, 2) := by decide +kernel
theorem dJ6_stringSize_0f7a4_44 : decode cJ6_stringSize_0f7a4 44 = .ok (.iload_n 1, 1) := by decide +kernel
theorem dJ6_stringSize_0f7a4_45 : decode cJ6_stringSize_0f7a4 45 = .ok (.iadd, 1) := by decide +kernel
theorem dJ6_stringSize_0f7a4_46 : decode cJ6_stringSize_0f7a4 46 = .ok (.ireturn, 1) := by decide +kernel
theorem dJ9_floorDiv_7cf53_0 : decode cJ9_floorDiv_7cf53 0 = .ok (.iload_n 0, 1) := by decide +kernel
theorem dJ9_floorDiv_7cf53_1 : decode cJ9_floorDiv_7cf53 1 = .ok (.iload_n 1, 1) := by decide +kernel
theorem dJ9_floorDiv_7cf53_2 : decode cJ9_floorDiv_7cf53 2 = .ok (.idiv, 1) := by decide +kernel
theorem dJ9_floorDiv_7cf53_3 : decode cJ9_floorDiv_7cf53 3 = .ok (.istore_n 2, 1) := by decide +kernel
theorem dJ9_floorDiv_7cf53_4 : decode cJ9_floorDiv_7cf53 4 = .ok (.iload_n 0, 1) := by decide +kernel
theorem dJ9_floorDiv_7cf53_5 : decode cJ9_floorDiv_7cf53 5 = .ok (.iload_n 1, 1) := by decide +kernel
theorem dJ9_floorDiv_7cf53_6 : decode cJ9_floorDiv_7cf53 6 = .ok (.ixor, 1) := by decide +kernel
theorem dJ9_floorDiv_7cf53_7 : decode cJ9_floorDiv_7cf53 7 = .ok (.ifCond .ge 14, 3) := by decide +kernel
theorem dJ9_floorDiv_7cf53_10 : decode cJ9_floorDiv_7cf53 10 = .ok (.iload_n 2, 1) := by decide +kernel
theorem dJ9_floorDiv_7cf53_11 : decode cJ9_floorDiv_7cf53 11 = .ok (.iload_n 1, 1) := by decide +kernel
theorem dJ9_floorDiv_7cf53_12 : decode cJ9_floorDiv_7cf53 12 = .ok (.imul, 1) := by decide +kernel
theorem dJ9_floorDiv_7cf53_13 : decode cJ9_floorDiv_7cf53 13 = .ok (.iload_n 0, 1) := by decide +kernel
theorem dJ9_floorDiv_7cf53_14 : decode cJ9_floorDiv_7cf53 14 = .ok (.if_icmp .eq 7, 3) := by decide +kernel
theorem dJ9_floorDiv_7cf53_17 : decode cJ9_floorDiv_7cf53 17 = .ok (.iload_n 2, 1) := by decide +kernel
theorem dJ9_floorDiv_7cf53_18 : decode cJ9_floorDiv_7cf53 18 = .ok (.iconst 1, 1) := by decide +kernel
theorem dJ9_floorDiv_7cf53_19 : decode cJ9_floorDiv_7cf53 19 = .ok (.isub, 1) := by decide +kernel
theorem dJ9_floorDiv_7cf53_20 : decode cJ9_floorDiv_7cf53 20 = .ok (.ireturn, 1) := by decide +kernel
theorem dJ9_floorDiv_7cf53_21 : decode cJ9_floorDiv_7cf53 21 = .ok (.iload_n 2, 1) := by decide +kernel
theorem dJ9_floorDiv_7cf53_22 : decode cJ9_floorDiv_7cf53 22 = .ok (.ireturn, 1) := by decide +kernel
theorem dJ9_abs_0f7a4_0 : decode cJ9_abs_0f7a4 0 = .ok (.iload_n 0, 1) := by decide +kernel
theorem dJ9_abs_0f7a4_1 : decode cJ9_abs_0f7a4 1 = .ok (.ifCond .ge 8, 3) := by decide +kernel
theorem dJ9_abs_0f7a4_4 : decode cJ9_abs_0f7a4 4 = .ok (.iload_n 0, 1) := by decide +kernel
theorem dJ9_abs_0f7a4_5 : decode cJ9_abs_0f7a4 5 = .ok (.ineg, 1) := by decide +kernel
theorem dJ9_abs_0f7a4_6 : decode cJ9_abs_0f7a4 6 = .ok (.goto 4, 3) := by decide +kernel
theorem dJ9_abs_0f7a4_9 : decode cJ9_abs_0f7a4 9 = .ok (.iload_n 0, 1) := by decide +kernel
theorem dJ9_abs_0f7a4_10 : decode cJ9_abs_0f7a4 10 = .ok (.ireturn, 1) := by decide +kernel
theorem dJ9_max_7cf53_0 : decode cJ9_max_7cf53 0 = .ok (.iload_n 0, 1) := by decide +kernel
theorem dJ9_max_7cf53_1 : decode cJ9_max_7cf53 1 = .ok (.iload_n 1, 1) := by decide +kernel
theorem dJ9_max_7cf53_2 : decode cJ9_max_7cf53 2 = .ok (.if_icmp .lt 7, 3) := by decide +kernel
theorem dJ9_max_7cf53_5 : decode cJ9_max_7cf53 5 = .ok (.iload_n 0, 1) := by decide +kernel
theorem dJ9_max_7cf53_6 : decode cJ9_max_7cf53 6 = .ok (.goto 4, 3) := by decide +kernel
theorem dJ9_max_7cf53_9 : decode cJ9_max_7cf53 9 = .ok (.iload_n 1, 1) := by decide +kernel
theorem dJ9_max_7cf53_10 : decode cJ9_max_7cf53 10 = .ok (.ireturn, 1) := by decide +kernel
theorem dJ9_min_7cf53_0 : decode cJ9_min_7cf53 0 = .ok (.iload_n 0, 1) := by decide +kernel
theorem dJ9_min_7cf53_1 : decode cJ9_min_7cf53 1 = .ok (.iload_n 1, 1) := by decide +kernel
theorem dJ9_min_7cf53_2 : decode cJ9_min_7cf53 2 = .ok (.if_icmp .gt 7, 3) := by decide +kernel
theorem dJ9_min_7cf53_5 : decode cJ9_min_7cf53 5 = .ok (.iload_n 0, 1) := by decide +kernel
theorem dJ9_min_7cf53_6 : decode cJ9_min_7cf53 6 = .ok (.goto 4, 3) := by decide +kernel
theorem dJ9_min_7cf53_9 : decode cJ9_min_7cf53 9 = .ok (.iload_n 1, 1) := by decide +kernel
theorem dJ9_min_7cf53_10 : decode cJ9_min_7cf53 10 = .ok (.ireturn, 1) := by decide +kernel
theorem dJ0_init_81219_0 : decode cJ0_init_81219 0 = .ok (.aload_n 0, 1) := by decide +kernel
theorem dJ0_init_81219_1 : decode cJ0_init_81219 1 = .ok (.aload_n 1, 1) := by decide +kernel
theorem dJ0_init_81219_2 : decode cJ0_init_81219 2 = .ok (.aconst_null, 1) := by decide +kernel
theorem dJ0_init_81219_3 : decode cJ0_init_81219 3 = .ok (.invokespecial 489, 3) := by decide +kernel
theorem dJ0_init_81219_6 : decode cJ0_init_81219 6 = .ok (.return_, 1) := by decide +kernel
theorem dJ0_length_8abf5_0 : decode cJ0_length_8abf5 0 = .ok (.aload_n 0, 1) := by decide +kernel
theorem dJ0_length_8abf5_1 : decode cJ0_length_8abf5 1 = .ok (.getfield 9, 3) := by decide +kernel
theorem dJ0_length_8abf5_4 : decode cJ0_length_8abf5 4 = .ok (.arraylength, 1) := by decide +kernel
theorem dJ0_length_8abf5_5 : decode cJ0_length_8abf5 5 = .ok (.aload_n 0, 1) := by decide +kernel
theorem dJ0_length_8abf5_6 : decode cJ0_length_8abf5 6 = .ok (.invokevirtual 335, 3) := by decide +kernel
theorem dJ0_length_8abf5_9 : decode cJ0_length_8abf5 9 = .ok (.ishr, 1) := by decide +kernel
theorem dJ0_length_8abf5_10 : decode cJ0_length_8abf5 10 = .ok (.ireturn, 1) := by decide +kernel
theorem dJ0_getBytes_840e7_0 : decode cJ0_getBytes_840e7 0 = .ok (.aload_n 0, 1) := by decide +kernel
theorem dJ0_getBytes_840e7_1 : decode cJ0_getBytes_840e7 1 = .ok (.invokevirtual 335, 3) := by decide +kernel
theorem dJ0_getBytes_840e7_4 : decode cJ0_getBytes_840e7 4 = .ok (.iload_n 3, 1) := by decide +kernel
theorem dJ0_getBytes_840e7_5 : decode cJ0_getBytes_840e7 5 = .ok (.if_icmp .ne 23, 3) := by decide +kernel
theorem dJ0_getBytes_840e7_8 : decode cJ0_getBytes_840e7 8 = .ok (.aload_n 0, 1) := by decide +kernel
theorem dJ0_getBytes_840e7_9 : decode cJ0_getBytes_840e7 9 = .ok (.getfield 9, 3) := by decide +kernel
theorem dJ0_getBytes_840e7_12 : decode cJ0_getBytes_840e7 12 = .ok (.iconst 0, 1) := by decide +kernel
theorem dJ0_getBytes_840e7_13 : decode cJ0_getBytes_840e7 13 = .ok (.aload_n 1, 1) := by decide +kernel
theorem dJ0_getBytes_840e7_14 : decode cJ0_getBytes_840e7 14 = .ok (.iload_n 2, 1) := by decide +kernel
theorem dJ0_getBytes_840e7_15 : decode cJ0_getBytes_840e7 15 = .ok (.iload_n 3, 1) := by decide +kernel
theorem dJ0_getBytes_840e7_16 : decode cJ0_getBytes_840e7 16 = .ok (.ishl, 1) := by decide +kernel
theorem dJ0_getBytes_840e7_17 : decode cJ0_getBytes_840e7 17 = .ok (.aload_n 0, 1) := by decide +kernel
theorem dJ0_getBytes_840e7_18 : decode cJ0_getBytes_840e7 18 = .ok (.getfield 9, 3) := by decide +kernel
theorem dJ0_getBytes_840e7_21 : decode cJ0_getBytes_840e7 21 = .ok (.arraylength, 1) := by decide +kernel
theorem dJ0_getBytes_840e7_22 : decode cJ0_getBytes_840e7 22 = .ok (.invokestatic 212, 3) := by decide +kernel
theorem dJ0_getBytes_840e7_25 : decode cJ0_getBytes_840e7 25 = .ok (.goto 18, 3) := by decide +kernel
theorem dJ0_getBytes_840e7_28 : decode cJ0_getBytes_840e7 28 = .ok (.aload_n 0, 1) := by decide +kernel
theorem dJ0_getBytes_840e7_29 : decode cJ0_getBytes_840e7 29 = .ok (.getfield 9, 3) := by decide +kernel
theorem dJ0_getBytes_840e7_32 : decode cJ0_getBytes_840e7 32 = .ok (.iconst 0, 1) := by decide +kernel
theorem dJ0_getBytes_840e7_33 : decode cJ0_getBytes_840e7 33 = .ok (.aload_n 1, 1) := by decide +kernel
theorem dJ0_getBytes_840e7_34 : decode cJ0_getBytes_840e7 34 = .ok (.iload_n 2, 1) := by decide +kernel
theorem dJ0_getBytes_840e7_35 : decode cJ0_getBytes_840e7 35 = .ok (.aload_n 0, 1) := by decide +kernel
theorem dJ0_getBytes_840e7_36 : decode cJ0_getBytes_840e7 36 = .ok (.getfield 9, 3) := by decide +kernel
theorem dJ0_getBytes_840e7_39 : decode cJ0_getBytes_840e7 39 = .ok (.arraylength, 1) := by decide +kernel
theorem dJ0_getBytes_840e7_40 : decode cJ0_getBytes_840e7 40 = .ok (.invokestatic 106, 3) := by decide +kernel
theorem dJ0_getBytes_840e7_43 : decode cJ0_getBytes_840e7 43 = .ok (.return_, 1) := by decide +kernel
theorem dJ0_init_db425_0 : decode cJ0_init_db425 0 = .ok (.aload_n 0, 1) := by decide +kernel
theorem dJ0_init_db425_1 : decode cJ0_init_db425 1 = .ok (.invokespecial 1, 3) := by decide +kernel
theorem dJ0_init_db425_4 : decode cJ0_init_db425 4 = .ok (.aload_n 1, 1) := by decide +kernel
theorem dJ0_init_db425_5 : decode cJ0_init_db425 5 = .ok (.invokevirtual 552, 3) := by decide +kernel
theorem dJ0_init_db425_8 : decode cJ0_init_db425 8 = .ok (.astore_n 3, 1) := by decide +kernel
theorem dJ0_init_db425_9 : decode cJ0_init_db425 9 = .ok (.aload_n 1, 1) := by decide +kernel
theorem dJ0_init_db425_10 : decode cJ0_init_db425 10 = .ok (.invokevirtual 549, 3) := by decide +kernel
theorem dJ0_init_db425_13 : decode cJ0_init_db425 13 = .ok (.istore 4, 2) := by decide +kernel
theorem dJ0_init_db425_15 : decode cJ0_init_db425 15 = .ok (.aload_n 1, 1) := by decide +kernel
theorem dJ0_init_db425_16 : decode cJ0_init_db425 16 = .ok (.invokevirtual 1047, 3) := by decide +kernel
theorem dJ0_init_db425_19 : decode cJ0_init_db425 19 = .ok (.ifCond .eq 22, 3) := by decide +kernel
theorem dJ0_init_db425_22 : decode cJ0_init_db425 22 = .ok (.aload_n 0, 1) := by decide +kernel
theorem dJ0_init_db425_23 : decode cJ0_init_db425 23 = .ok (.iconst 0, 1) := by decide +kernel
theorem dJ0_init_db425_24 : decode cJ0_init_db425 24 = .ok (.putfield 15, 3) := by decide +kernel
theorem dJ0_init_db425_27 : decode cJ0_init_db425 27 = .ok (.aload_n 0, 1) := by decide +kernel
theorem dJ0_init_db425_28 : decode cJ0_init_db425 28 = .ok (.aload_n 3, 1) := by decide +kernel
theorem dJ0_init_db425_29 : decode cJ0_init_db425 29 = .ok (.iconst 0, 1) := by decide +kernel
theorem dJ0_init_db425_30 : decode cJ0_init_db425 30 = .ok (.iload 4, 2) := by decide +kernel
theorem dJ0_init_db425_32 : decode cJ0_init_db425 32 = .ok (.invokestatic 54, 3) := by decide +kernel
theorem dJ0_init_db425_35 : decode cJ0_init_db425 35 = .ok (.putfield 9, 3) := by decide +kernel
theorem dJ0_init_db425_38 : decode cJ0_init_db425 38 = .ok (.goto 59, 3) := by decide +kernel
theorem dJ0_init_db425_41 : decode cJ0_init_db425 41 = .ok (.getstatic 38, 3) := by decide +kernel
theorem dJ0_init_db425_44 : decode cJ0_init_db425 44 = .ok (.ifCond .eq 35, 3) := by decide +kernel
theorem dJ0_init_db425_47 : decode cJ0_init_db425 47 = .ok (.aload_n 1, 1) := by decide +kernel
theorem dJ0_init_db425_48 : decode cJ0_init_db425 48 = .ok (.getfield 1048, 3) := by decide +kernel
theorem dJ0_init_db425_51 : decode cJ0_init_db425 51 = .ok (.ifCond .eq 28, 3) := by decide +kernel
theorem dJ0_init_db425_54 : decode cJ0_init_db425 54 = .ok (.aload_n 0, 1) := by decide +kernel
theorem dJ0_init_db425_55 : decode cJ0_init_db425 55 = .ok (.aload_n 3, 1) := by decide +kernel
theorem dJ0_init_db425_56 : decode cJ0_init_db425 56 = .ok (.iconst 0, 1) := by decide +kernel
theorem dJ0_init_db425_57 : decode cJ0_init_db425 57 = .ok (.iload 4, 2) := by decide +kernel
theorem dJ0_init_db425_59 : decode cJ0_init_db425 59 = .ok (.invokestatic 1051, 3) := by decide +kernel
theorem dJ0_init_db425_62 : decode cJ0_init_db425 62 = .ok (.putfield 9, 3) := by decide +kernel
theorem dJ0_init_db425_65 : decode cJ0_init_db425 65 = .ok (.aload_n 0, 1) := by decide +kernel
theorem dJ0_init_db425_66 : decode cJ0_init_db425 66 = .ok (.aload_n 0, 1) := by decide +kernel
theorem dJ0_init_db425_67 : decode cJ0_init_db425 67 = .ok (.getfield 9, 3) := by decide +kernel
theorem dJ0_init_db425_70 : decode cJ0_init_db425 70 = .ok (.iload 4, 2) := by decide +kernel
theorem dJ0_init_db425_72 : decode cJ0_init_db425 72 = .ok (.invokestatic 47, 3) := by decide +kernel
theorem dJ0_init_db425_75 : decode cJ0_init_db425 75 = .ok (.putfield 15, 3) := by decide +kernel
theorem dJ0_init_db425_78 : decode cJ0_init_db425 78 = .ok (.return_, 1) := by decide +kernel
theorem dJ0_init_db425_79 : decode cJ0_init_db425 79 = .ok (.aload_n 0, 1) := by decide +kernel
theorem dJ0_init_db425_80 : decode cJ0_init_db425 80 = .ok (.iconst 1, 1) := by decide +kernel
theorem dJ0_init_db425_81 : decode cJ0_init_db425 81 = .ok (.putfield 15, 3) := by decide +kernel
theorem dJ0_init_db425_84 : decode cJ0_init_db425 84 = .ok (.aload_n 0, 1) := by decide +kernel
theorem dJ0_init_db425_85 : decode cJ0_init_db425 85 = .ok (.aload_n 3, 1) := by decide +kernel
theorem dJ0_init_db425_86 : decode cJ0_init_db425 86 = .ok (.iconst 0, 1) := by decide +kernel
theorem dJ0_init_db425_87 : decode cJ0_init_db425 87 = .ok (.iload 4, 2) := by decide +kernel
theorem dJ0_init_db425_89 : decode cJ0_init_db425 89 = .ok (.iconst 1, 1) := by decide +kernel
theorem dJ0_init_db425_90 : decode cJ0_init_db425 90 = .ok (.ishl, 1) := by decide +kernel
theorem dJ0_init_db425_91 : decode cJ0_init_db425 91 = .ok (.invokestatic 54, 3) := by decide +kernel
theorem dJ0_init_db425_94 : decode cJ0_init_db425 94 = .ok (.putfield 9, 3) := by decide +kernel
theorem dJ0_init_db425_97 : decode cJ0_init_db425 97 = .ok (.return_, 1) := by decide +kernel
theorem dJ0_coder_7d493_0 : decode cJ0_coder_7d493 0 = .ok (.getstatic 38, 3) := by decide +kernel
theorem dJ0_coder_7d493_3 : decode cJ0_coder_7d493 3 = .ok (.ifCond .eq 10, 3) := by decide +kernel
theorem dJ0_coder_7d493_6 : decode cJ0_coder_7d493 6 = .ok (.aload_n 0, 1) := by decide +kernel
theorem dJ0_coder_7d493_7 : decode cJ0_coder_7d493 7 = .ok (.getfield 15, 3) := by decide +kernel
theorem dJ0_coder_7d493_10 : decode cJ0_coder_7d493 10 = .ok (.goto 4, 3) := by decide +kernel
theorem dJ0_coder_7d493_13 : decode cJ0_coder_7d493 13 = .ok (.iconst 1, 1) := by decide +kernel
theorem dJ0_coder_7d493_14 : decode cJ0_coder_7d493 14 = .ok (.ireturn, 1) := by decide +kernel
theorem dJ0_checkIndex_df160_0 : decode cJ0_checkIndex_df160 0 = .ok (.iload_n 0, 1) := by decide +kernel
theorem dJ0_checkIndex_df160_1 : decode cJ0_checkIndex_df160 1 = .ok (.iload_n 1, 1) := by decide +kernel
theorem dJ0_checkIndex_df160_2 : decode cJ0_checkIndex_df160 2 = .ok (.getstatic 1053, 3) := by decide +kernel
theorem dJ0_checkIndex_df160_5 : decode cJ0_checkIndex_df160 5 = .ok (.invokestatic 1059, 3) := by decide +kernel
theorem dJ0_checkIndex_df160_8 : decode cJ0_checkIndex_df160 8 = .ok (.pop, 1) := by decide +kernel
theorem dJ0_checkIndex_df160_9 : decode cJ0_checkIndex_df160 9 = .ok (.return_, 1) := by decide +kernel
theorem dJ0_checkBoundsOffCount_cabcc_0 : decode cJ0_checkBoundsOffCount_cabcc 0 = .ok (.iload_n 0, 1) := by decide +kernel
theorem dJ0_checkBoundsOffCount_cabcc_1 : decode cJ0_checkBoundsOffCount_cabcc 1 = .ok (.iload_n 1, 1) := by decide +kernel
theorem dJ0_checkBoundsOffCount_cabcc_2 : decode cJ0_checkBoundsOffCount_cabcc 2 = .ok (.iload_n 2, 1) := by decide +kernel
theorem dJ0_checkBoundsOffCount_cabcc_3 : decode cJ0_checkBoundsOffCount_cabcc 3 = .ok (.getstatic 1053, 3) := by decide +kernel
theorem dJ0_checkBoundsOffCount_cabcc_6 : decode cJ0_checkBoundsOffCount_cabcc 6 = .ok (.invokestatic 1065, 3) := by decide +kernel
theorem dJ0_checkBoundsOffCount_cabcc_9 : decode cJ0_checkBoundsOffCount_cabcc 9 = .ok (.ireturn, 1) := by decide +kernel
theorem dJ0_checkBoundsBeginEnd_23922_0 : decode cJ0_checkBoundsBeginEnd_23922 0 = .ok (.iload_n 0, 1) := by decide +kernel
theorem dJ0_checkBoundsBeginEnd_23922_1 : decode cJ0_checkBoundsBeginEnd_23922 1 = .ok (.iload_n 1, 1) := by decide +kernel
theorem dJ0_checkBoundsBeginEnd_23922_2 : decode cJ0_checkBoundsBeginEnd_23922 2 = .ok (.iload_n 2, 1) := by decide +kernel
theorem dJ0_checkBoundsBeginEnd_23922_3 : decode cJ0_checkBoundsBeginEnd_23922 3 = .ok (.getstatic 1053, 3) := by decide +kernel
theorem dJ0_checkBoundsBeginEnd_23922_6 : decode cJ0_checkBoundsBeginEnd_23922 6 = .ok (.invokestatic 1062, 3) := by decide +kernel
theorem dJ0_checkBoundsBeginEnd_23922_9 : decode cJ0_checkBoundsBeginEnd_23922 9 = .ok (.pop, 1) := by decide +kernel
theorem dJ0_checkBoundsBeginEnd_23922_10 : decode cJ0_checkBoundsBeginEnd_23922 10 = .ok (.return_, 1) := by decide +kernel
theorem dJ4_init_da8c8_0 : decode cJ4_init_da8c8 0 = .ok (.aload_n 0, 1) := by decide +kernel
theorem dJ4_init_da8c8_1 : decode cJ4_init_da8c8 1 = .ok (.bipush 16, 2) := by decide +kernel
theorem dJ4_init_da8c8_3 : decode cJ4_init_da8c8 3 = .ok (.invokespecial 1, 3) := by decide +kernel
theorem dJ4_init_da8c8_6 : decode cJ4_init_da8c8 6 = .ok (.return_, 1) := by decide +kernel
theorem dJ4_append_15ec4_0 : decode cJ4_append_15ec4 0 = .ok (.aload_n 0, 1) := by decide +kernel
theorem dJ4_append_15ec4_1 : decode cJ4_append_15ec4 1 = .ok (.aload_n 1, 1) := by decide +kernel
theorem dJ4_append_15ec4_2 : decode cJ4_append_15ec4 2 = .ok (.invokespecial 29, 3) := by decide +kernel
theorem dJ4_append_15ec4_5 : decode cJ4_append_15ec4 5 = .ok (.pop, 1) := by decide +kernel
theorem dJ4_append_15ec4_6 : decode cJ4_append_15ec4 6 = .ok (.aload_n 0, 1) := by decide +kernel
theorem dJ4_append_15ec4_7 : decode cJ4_append_15ec4 7 = .ok (.areturn, 1) := by decide +kernel
theorem dJ4_append_cf468_0 : decode cJ4_append_cf468 0 = .ok (.aload_n 0, 1) := by decide +kernel
theorem dJ4_append_cf468_1 : decode cJ4_append_cf468 1 = .ok (.iload_n 1, 1) := by decide +kernel
theorem dJ4_append_cf468_2 : decode cJ4_append_cf468 2 = .ok (.invokespecial 50, 3) := by decide +kernel
theorem dJ4_append_cf468_5 : decode cJ4_append_cf468 5 = .ok (.pop, 1) := by decide +kernel
theorem dJ4_append_cf468_6 : decode cJ4_append_cf468 6 = .ok (.aload_n 0, 1) := by decide +kernel
theorem dJ4_append_cf468_7 : decode cJ4_append_cf468 7 = .ok (.areturn, 1) := by decide +kernel
theorem dJ4_append_bf812_0 : decode cJ4_append_bf812 0 = .ok (.aload_n 0, 1) := by decide +kernel
theorem dJ4_append_bf812_1 : decode cJ4_append_bf812 1 = .ok (.iload_n 1, 1) := by decide +kernel
theorem dJ4_append_bf812_2 : decode cJ4_append_bf812 2 = .ok (.invokespecial 53, 3) := by decide +kernel
theorem dJ4_append_bf812_5 : decode cJ4_append_bf812 5 = .ok (.pop, 1) := by decide +kernel
theorem dJ4_append_bf812_6 : decode cJ4_append_bf812 6 = .ok (.aload_n 0, 1) := by decide +kernel
theorem dJ4_append_bf812_7 : decode cJ4_append_bf812 7 = .ok (.areturn, 1) := by decide +kernel
theorem dJ4_toString_0e30d_0 : decode cJ4_toString_0e30d 0 = .ok (.new 18, 3) := by decide +kernel
theorem dJ4_toString_0e30d_3 : decode cJ4_toString_0e30d 3 = .ok (.dup, 1) := by decide +kernel
theorem dJ4_toString_0e30d_4 : decode cJ4_toString_0e30d 4 = .ok (.aload_n 0, 1) := by decide +kernel
theorem dJ4_toString_0e30d_5 : decode cJ4_toString_0e30d 5 = .ok (.invokespecial 137, 3) := by decide +kernel
theorem dJ4_toString_0e30d_8 : decode cJ4_toString_0e30d 8 = .ok (.areturn, 1) := by decide +kernel
theorem dJ4_charAt_5068e_0 : decode cJ4_charAt_5068e 0 = .ok (.aload_n 0, 1) := by decide +kernel
theorem dJ4_charAt_5068e_1 : decode cJ4_charAt_5068e 1 = .ok (.iload_n 1, 1) := by decide +kernel
theorem dJ4_charAt_5068e_2 : decode cJ4_charAt_5068e 2 = .ok (.invokespecial 329, 3) := by decide +kernel
theorem dJ4_charAt_5068e_5 : decode cJ4_charAt_5068e 5 = .ok (.ireturn, 1) := by decide +kernel
theorem dJ4_setLength_d00df_0 : decode cJ4_setLength_d00df 0 = .ok (.aload_n 0, 1) := by decide +kernel
theorem dJ4_setLength_d00df_1 : decode cJ4_setLength_d00df 1 = .ok (.iload_n 1, 1) := by decide +kernel
theorem dJ4_setLength_d00df_2 : decode cJ4_setLength_d00df 2 = .ok (.invokespecial 333, 3) := by decide +kernel
theorem dJ4_setLength_d00df_5 : decode cJ4_setLength_d00df 5 = .ok (.return_, 1) := by decide +kernel
theorem dJ4_length_8abf5_0 : decode cJ4_length_8abf5 0 = .ok (.aload_n 0, 1) := by decide +kernel
theorem dJ4_length_8abf5_1 : decode cJ4_length_8abf5 1 = .ok (.invokespecial 343, 3) := by decide +kernel
theorem dJ4_length_8abf5_4 : decode cJ4_length_8abf5 4 = .ok (.ireturn, 1) := by decide +kernel
theorem dJx7c733_init_d00df_0 : decode cJx7c733_init_d00df 0 = .ok (.aload_n 0, 1) := by decide +kernel
theorem dJx7c733_init_d00df_1 : decode cJx7c733_init_d00df 1 = .ok (.new 10, 3) := by decide +kernel
theorem dJx7c733_init_d00df_4 : decode cJx7c733_init_d00df 4 = .ok (.dup, 1) := by decide +kernel
theorem dJx7c733_init_d00df_5 : decode cJx7c733_init_d00df 5 = .ok (.invokespecial 12, 3) := by decide +kernel
theorem dJx7c733_init_d00df_8 : decode cJx7c733_init_d00df 8 = .ok (.ldc 13, 2) := by decide +kernel
theorem dJx7c733_init_d00df_10 : decode cJx7c733_init_d00df 10 = .ok (.invokevirtual 15, 3) := by decide +kernel
theorem dJx7c733_init_d00df_13 : decode cJx7c733_init_d00df 13 = .ok (.iload_n 1, 1) := by decide +kernel
theorem dJx7c733_init_d00df_14 : decode cJx7c733_init_d00df 14 = .ok (.invokevirtual 19, 3) := by decide +kernel
theorem dJx7c733_init_d00df_17 : decode cJx7c733_init_d00df 17 = .ok (.invokevirtual 22, 3) := by decide +kernel
theorem dJx7c733_init_d00df_20 : decode cJx7c733_init_d00df 20 = .ok (.invokespecial 7, 3) := by decide +kernel
theorem dJx7c733_init_d00df_23 : decode cJx7c733_init_d00df 23 = .ok (.return_, 1) := by decide +kernel
theorem dJ1_canEncode_fc78d_0 : decode cJ1_canEncode_fc78d 0 = .ok (.iload_n 0, 1) := by decide +kernel
theorem dJ1_canEncode_fc78d_1 : decode cJ1_canEncode_fc78d 1 = .ok (.sipush 255, 3) := by decide +kernel
theorem dJ1_canEncode_fc78d_4 : decode cJ1_canEncode_fc78d 4 = .ok (.if_icmp .gt 7, 3) := by decide +kernel
theorem dJ1_canEncode_fc78d_7 : decode cJ1_canEncode_fc78d 7 = .ok (.iconst 1, 1) := by decide +kernel
theorem dJ1_canEncode_fc78d_8 : decode cJ1_canEncode_fc78d 8 = .ok (.goto 4, 3) := by decide +kernel
theorem dJ1_canEncode_fc78d_11 : decode cJ1_canEncode_fc78d 11 = .ok (.iconst 0, 1) := by decide +kernel
theorem dJ1_canEncode_fc78d_12 : decode cJ1_canEncode_fc78d 12 = .ok (.ireturn, 1) := by decide +kernel
theorem dJ1_fillNull_b72d1_0 : decode cJ1_fillNull_b72d1 0 = .ok (.aload_n 0, 1) := by decide +kernel
theorem dJ1_fillNull_b72d1_1 : decode cJ1_fillNull_b72d1 1 = .ok (.iload_n 1, 1) := by decide +kernel
theorem dJ1_fillNull_b72d1_2 : decode cJ1_fillNull_b72d1 2 = .ok (.iload_n 2, 1) := by decide +kernel
theorem dJ1_fillNull_b72d1_3 : decode cJ1_fillNull_b72d1 3 = .ok (.iconst 0, 1) := by decide +kernel
theorem dJ1_fillNull_b72d1_4 : decode cJ1_fillNull_b72d1 4 = .ok (.invokestatic 236, 3) := by decide +kernel
theorem dJ1_fillNull_b72d1_7 : decode cJ1_fillNull_b72d1 7 = .ok (.return_, 1) := by decide +kernel
theorem dJ1_inflate_0e8fd_0 : decode cJ1_inflate_0e8fd 0 = .ok (.aload_n 0, 1) := by decide +kernel
theorem dJ1_inflate_0e8fd_1 : decode cJ1_inflate_0e8fd 1 = .ok (.iload_n 1, 1) := by decide +kernel
theorem dJ1_inflate_0e8fd_2 : decode cJ1_inflate_0e8fd 2 = .ok (.aload_n 2, 1) := by decide +kernel
theorem dJ1_inflate_0e8fd_3 : decode cJ1_inflate_0e8fd 3 = .ok (.iload_n 3, 1) := by decide +kernel
theorem dJ1_inflate_0e8fd_4 : decode cJ1_inflate_0e8fd 4 = .ok (.iload 4, 2) := by decide +kernel
theorem dJ1_inflate_0e8fd_6 : decode cJ1_inflate_0e8fd 6 = .ok (.invokestatic 240, 3) := by decide +kernel
theorem dJ1_inflate_0e8fd_9 : decode cJ1_inflate_0e8fd 9 = .ok (.return_, 1) := by decide +kernel
theorem dJ2_newBytesFor_77867_0 : decode cJ2_newBytesFor_77867 0 = .ok (.iload_n 0, 1) := by decide +kernel
theorem dJ2_newBytesFor_77867_1 : decode cJ2_newBytesFor_77867 1 = .ok (.invokestatic 11, 3) := by decide +kernel
theorem dJ2_newBytesFor_77867_4 : decode cJ2_newBytesFor_77867 4 = .ok (.newarray .byte, 2) := by decide +kernel
theorem dJ2_newBytesFor_77867_6 : decode cJ2_newBytesFor_77867 6 = .ok (.areturn, 1) := by decide +kernel
theorem dJ2_newBytesLength_0f7a4_0 : decode cJ2_newBytesLength_0f7a4 0 = .ok (.iload_n 0, 1) := by decide +kernel
theorem dJ2_newBytesLength_0f7a4_1 : decode cJ2_newBytesLength_0f7a4 1 = .ok (.ifCond .ge 11, 3) := by decide +kernel
theorem dJ2_newBytesLength_0f7a4_4 : decode cJ2_newBytesLength_0f7a4 4 = .ok (.new 17, 3) := by decide +kernel
theorem dJ2_newBytesLength_0f7a4_7 : decode cJ2_newBytesLength_0f7a4 7 = .ok (.dup, 1) := by decide +kernel
theorem dJ2_newBytesLength_0f7a4_8 : decode cJ2_newBytesLength_0f7a4 8 = .ok (.invokespecial 19, 3) := by decide +kernel
theorem dJ2_newBytesLength_0f7a4_11 : decode cJ2_newBytesLength_0f7a4 11 = .ok (.athrow, 1) := by decide +kernel
theorem dJ2_newBytesLength_0f7a4_12 : decode cJ2_newBytesLength_0f7a4 12 = .ok (.iload_n 0, 1) := by decide +kernel
theorem dJ2_newBytesLength_0f7a4_13 : decode cJ2_newBytesLength_0f7a4 13 = .ok (.ldc 20, 2) := by decide +kernel
theorem dJ2_newBytesLength_0f7a4_15 : decode cJ2_newBytesLength_0f7a4 15 = .ok (.if_icmp .lt 40, 3) := by decide +kernel
theorem dJ2_newBytesLength_0f7a4_18 : decode cJ2_newBytesLength_0f7a4 18 = .ok (.new 21, 3) := by decide +kernel
theorem dJ2_newBytesLength_0f7a4_21 : decode cJ2_newBytesLength_0f7a4 21 = .ok (.dup, 1) := by decide +kernel
theorem dJ2_newBytesLength_0f7a4_22 : decode cJ2_newBytesLength_0f7a4 22 = .ok (.new 23, 3) := by decide +kernel
theorem dJ2_newBytesLength_0f7a4_25 : decode cJ2_newBytesLength_0f7a4 25 = .ok (.dup, 1) := by decide +kernel
theorem dJ2_newBytesLength_0f7a4_26 : decode cJ2_newBytesLength_0f7a4 26 = .ok (.invokespecial 25, 3) := by decide +kernel
theorem dJ2_newBytesLength_0f7a4_29 : decode cJ2_newBytesLength_0f7a4 29 = .ok (.ldc 26, 2) := by decide +kernel
theorem dJ2_newBytesLength_0f7a4_31 : decode cJ2_newBytesLength_0f7a4 31 = .ok (.invokevirtual 28, 3) := by decide +kernel
theorem dJ2_newBytesLength_0f7a4_34 : decode cJ2_newBytesLength_0f7a4 34 = .ok (.iload_n 0, 1) := by decide +kernel
theorem dJ2_newBytesLength_0f7a4_35 : decode cJ2_newBytesLength_0f7a4 35 = .ok (.invokevirtual 32, 3) := by decide +kernel
theorem dJ2_newBytesLength_0f7a4_38 : decode cJ2_newBytesLength_0f7a4 38 = .ok (.ldc 35, 2) := by decide +kernel
theorem dJ2_newBytesLength_0f7a4_40 : decode cJ2_newBytesLength_0f7a4 40 = .ok (.invokevirtual 28, 3) := by decide +kernel
theorem dJ2_newBytesLength_0f7a4_43 : decode cJ2_newBytesLength_0f7a4 43 = .ok (.ldc 20, 2) := by decide +kernel
theorem dJ2_newBytesLength_0f7a4_45 : decode cJ2_newBytesLength_0f7a4 45 = .ok (.invokevirtual 32, 3) := by decide +kernel
theorem dJ2_newBytesLength_0f7a4_48 : decode cJ2_newBytesLength_0f7a4 48 = .ok (.invokevirtual 37, 3) := by decide +kernel
theorem dJ2_newBytesLength_0f7a4_51 : decode cJ2_newBytesLength_0f7a4 51 = .ok (.invokespecial 41, 3) := by decide +kernel
theorem dJ2_newBytesLength_0f7a4_54 : decode cJ2_newBytesLength_0f7a4 54 = .ok (.athrow, 1) := by decide +kernel
theorem dJ2_newBytesLength_0f7a4_55 : decode cJ2_newBytesLength_0f7a4 55 = .ok (.iload_n 0, 1) := by decide +kernel
theorem dJ2_newBytesLength_0f7a4_56 : decode cJ2_newBytesLength_0f7a4 56 = .ok (.iconst 1, 1) := by decide +kernel
theorem dJ2_newBytesLength_0f7a4_57 : decode cJ2_newBytesLength_0f7a4 57 = .ok (.ishl, 1) := by decide +kernel
theorem dJ2_newBytesLength_0f7a4_58 : decode cJ2_newBytesLength_0f7a4 58 = .ok (.ireturn, 1) := by decide +kernel
theorem dJ2_putChar_b72d1_0 : decode cJ2_putChar_b72d1 0 = .ok (.getstatic 44, 3) := by decide +kernel
theorem dJ2_putChar_b72d1_3 : decode cJ2_putChar_b72d1 3 = .ok (.ifCond .ne 25, 3) := by decide +kernel
theorem dJ2_putChar_b72d1_6 : decode cJ2_putChar_b72d1 6 = .ok (.iload_n 1, 1) := by decide +kernel
theorem dJ2_putChar_b72d1_7 : decode cJ2_putChar_b72d1 7 = .ok (.ifCond .lt 11, 3) := by decide +kernel
theorem dJ2_putChar_b72d1_10 : decode cJ2_putChar_b72d1 10 = .ok (.iload_n 1, 1) := by decide +kernel
theorem dJ2_putChar_b72d1_11 : decode cJ2_putChar_b72d1 11 = .ok (.aload_n 0, 1) := by decide +kernel
theorem dJ2_putChar_b72d1_12 : decode cJ2_putChar_b72d1 12 = .ok (.invokestatic 48, 3) := by decide +kernel
theorem dJ2_putChar_b72d1_15 : decode cJ2_putChar_b72d1 15 = .ok (.if_icmp .lt 13, 3) := by decide +kernel
theorem dJ2_putChar_b72d1_18 : decode cJ2_putChar_b72d1 18 = .ok (.new 52, 3) := by decide +kernel
theorem dJ2_putChar_b72d1_21 : decode cJ2_putChar_b72d1 21 = .ok (.dup, 1) := by decide +kernel
theorem dJ2_putChar_b72d1_22 : decode cJ2_putChar_b72d1 22 = .ok (.ldc 54, 2) := by decide +kernel
theorem dJ2_putChar_b72d1_24 : decode cJ2_putChar_b72d1 24 = .ok (.invokespecial 56, 3) := by decide +kernel
theorem dJ2_putChar_b72d1_27 : decode cJ2_putChar_b72d1 27 = .ok (.athrow, 1) := by decide +kernel
theorem dJ2_putChar_b72d1_28 : decode cJ2_putChar_b72d1 28 = .ok (.iload_n 1, 1) := by decide +kernel
theorem dJ2_putChar_b72d1_29 : decode cJ2_putChar_b72d1 29 = .ok (.iconst 1, 1) := by decide +kernel
theorem dJ2_putChar_b72d1_30 : decode cJ2_putChar_b72d1 30 = .ok (.ishl, 1) := by decide +kernel
theorem dJ2_putChar_b72d1_31 : decode cJ2_putChar_b72d1 31 = .ok (.istore_n 1, 1) := by decide +kernel
theorem dJ2_putChar_b72d1_32 : decode cJ2_putChar_b72d1 32 = .ok (.aload_n 0, 1) := by decide +kernel
theorem dJ2_putChar_b72d1_33 : decode cJ2_putChar_b72d1 33 = .ok (.iload_n 1, 1) := by decide +kernel
theorem dJ2_putChar_b72d1_34 : decode cJ2_putChar_b72d1 34 = .ok (.iinc 1 1, 3) := by decide +kernel
theorem dJ2_putChar_b72d1_37 : decode cJ2_putChar_b72d1 37 = .ok (.iload_n 2, 1) := by decide +kernel
theorem dJ2_putChar_b72d1_38 : decode cJ2_putChar_b72d1 38 = .ok (.getstatic 59, 3) := by decide +kernel
theorem dJ2_putChar_b72d1_41 : decode cJ2_putChar_b72d1 41 = .ok (.ishr, 1) := by decide +kernel
theorem dJ2_putChar_b72d1_42 : decode cJ2_putChar_b72d1 42 = .ok (.i2b, 1) := by decide +kernel
theorem dJ2_putChar_b72d1_43 : decode cJ2_putChar_b72d1 43 = .ok (.bastore, 1) := by decide +kernel
theorem dJ2_putChar_b72d1_44 : decode cJ2_putChar_b72d1 44 = .ok (.aload_n 0, 1) := by decide +kernel
theorem dJ2_putChar_b72d1_45 : decode cJ2_putChar_b72d1 45 = .ok (.iload_n 1, 1) := by decide +kernel
theorem dJ2_putChar_b72d1_46 : decode cJ2_putChar_b72d1 46 = .ok (.iload_n 2, 1) := by decide +kernel
theorem dJ2_putChar_b72d1_47 : decode cJ2_putChar_b72d1 47 = .ok (.getstatic 63, 3) := by decide +kernel
theorem dJ2_putChar_b72d1_50 : decode cJ2_putChar_b72d1 50 = .ok (.ishr, 1) := by decide +kernel
theorem dJ2_putChar_b72d1_51 : decode cJ2_putChar_b72d1 51 = .ok (.i2b, 1) := by decide +kernel
theorem dJ2_putChar_b72d1_52 : decode cJ2_putChar_b72d1 52 = .ok (.bastore, 1) := by decide +kernel
theorem dJ2_putChar_b72d1_53 : decode cJ2_putChar_b72d1 53 = .ok (.return_, 1) := by decide +kernel
theorem dJ2_getChar_3b067_0 : decode cJ2_getChar_3b067 0 = .ok (.getstatic 44, 3) := by decide +kernel
theorem dJ2_getChar_3b067_3 : decode cJ2_getChar_3b067 3 = .ok (.ifCond .ne 25, 3) := by decide +kernel
theorem dJ2_getChar_3b067_6 : decode cJ2_getChar_3b067 6 = .ok (.iload_n 1, 1) := by decide +kernel
theorem dJ2_getChar_3b067_7 : decode cJ2_getChar_3b067 7 = .ok (.ifCond .lt 11, 3) := by decide +kernel
theorem dJ2_getChar_3b067_10 : decode cJ2_getChar_3b067 10 = .ok (.iload_n 1, 1) := by decide +kernel
theorem dJ2_getChar_3b067_11 : decode cJ2_getChar_3b067 11 = .ok (.aload_n 0, 1) := by decide +kernel
theorem dJ2_getChar_3b067_12 : decode cJ2_getChar_3b067 12 = .ok (.invokestatic 48, 3) := by decide +kernel
theorem dJ2_getChar_3b067_15 : decode cJ2_getChar_3b067 15 = .ok (.if_icmp .lt 13, 3) := by decide +kernel
theorem dJ2_getChar_3b067_18 : decode cJ2_getChar_3b067 18 = .ok (.new 52, 3) := by decide +kernel
theorem dJ2_getChar_3b067_21 : decode cJ2_getChar_3b067 21 = .ok (.dup, 1) := by decide +kernel
theorem dJ2_getChar_3b067_22 : decode cJ2_getChar_3b067 22 = .ok (.ldc 54, 2) := by decide +kernel
theorem dJ2_getChar_3b067_24 : decode cJ2_getChar_3b067 24 = .ok (.invokespecial 56, 3) := by decide +kernel
theorem dJ2_getChar_3b067_27 : decode cJ2_getChar_3b067 27 = .ok (.athrow, 1) := by decide +kernel
theorem dJ2_getChar_3b067_28 : decode cJ2_getChar_3b067 28 = .ok (.iload_n 1, 1) := by decide +kernel
theorem dJ2_getChar_3b067_29 : decode cJ2_getChar_3b067 29 = .ok (.iconst 1, 1) := by decide +kernel
theorem dJ2_getChar_3b067_30 : decode cJ2_getChar_3b067 30 = .ok (.ishl, 1) := by decide +kernel
theorem dJ2_getChar_3b067_31 : decode cJ2_getChar_3b067 31 = .ok (.istore_n 1, 1) := by decide +kernel
theorem dJ2_getChar_3b067_32 : decode cJ2_getChar_3b067 32 = .ok (.aload_n 0, 1) := by decide +kernel
theorem dJ2_getChar_3b067_33 : decode cJ2_getChar_3b067 33 = .ok (.iload_n 1, 1) := by decide +kernel
theorem dJ2_getChar_3b067_34 : decode cJ2_getChar_3b067 34 = .ok (.iinc 1 1, 3) := by decide +kernel
theorem dJ2_getChar_3b067_37 : decode cJ2_getChar_3b067 37 = .ok (.baload, 1) := by decide +kernel
theorem dJ2_getChar_3b067_38 : decode cJ2_getChar_3b067 38 = .ok (.sipush 255, 3) := by decide +kernel
theorem dJ2_getChar_3b067_41 : decode cJ2_getChar_3b067 41 = .ok (.iand, 1) := by decide +kernel
theorem dJ2_getChar_3b067_42 : decode cJ2_getChar_3b067 42 = .ok (.getstatic 59, 3) := by decide +kernel
theorem dJ2_getChar_3b067_45 : decode cJ2_getChar_3b067 45 = .ok (.ishl, 1) := by decide +kernel
theorem dJ2_getChar_3b067_46 : decode cJ2_getChar_3b067 46 = .ok (.aload_n 0, 1) := by decide +kernel
theorem dJ2_getChar_3b067_47 : decode cJ2_getChar_3b067 47 = .ok (.iload_n 1, 1) := by decide +kernel
theorem dJ2_getChar_3b067_48 : decode cJ2_getChar_3b067 48 = .ok (.baload, 1) := by decide +kernel
theorem dJ2_getChar_3b067_49 : decode cJ2_getChar_3b067 49 = .ok (.sipush 255, 3) := by decide +kernel
theorem dJ2_getChar_3b067_52 : decode cJ2_getChar_3b067 52 = .ok (.iand, 1) := by decide +kernel
theorem dJ2_getChar_3b067_53 : decode cJ2_getChar_3b067 53 = .ok (.getstatic 63, 3) := by decide +kernel
theorem dJ2_getChar_3b067_56 : decode cJ2_getChar_3b067 56 = .ok (.ishl, 1) := by decide +kernel
theorem dJ2_getChar_3b067_57 : decode cJ2_getChar_3b067 57 = .ok (.ior, 1) := by decide +kernel
theorem dJ2_getChar_3b067_58 : decode cJ2_getChar_3b067 58 = .ok (.i2c, 1) := by decide +kernel
theorem dJ2_getChar_3b067_59 : decode cJ2_getChar_3b067 59 = .ok (.ireturn, 1) := by decide +kernel
theorem dJ2_length_9d52b_0 : decode cJ2_length_9d52b 0 = .ok (.aload_n 0, 1) := by decide +kernel
theorem dJ2_length_9d52b_1 : decode cJ2_length_9d52b 1 = .ok (.arraylength, 1) := by decide +kernel
theorem dJ2_length_9d52b_2 : decode cJ2_length_9d52b 2 = .ok (.iconst 1, 1) := by decide +kernel
theorem dJ2_length_9d52b_3 : decode cJ2_length_9d52b 3 = .ok (.ishr, 1) := by decide +kernel
theorem dJ2_length_9d52b_4 : decode cJ2_length_9d52b 4 = .ok (.ireturn, 1) := by decide +kernel
theorem dJ2_coderFromArrayLen_85cad_0 : decode cJ2_coderFromArrayLen_85cad 0 = .ok (.iload_n 1, 1) := by decide +kernel
theorem dJ2_coderFromArrayLen_85cad_1 : decode cJ2_coderFromArrayLen_85cad 1 = .ok (.aload_n 0, 1) := by decide +kernel
theorem dJ2_coderFromArrayLen_85cad_2 : decode cJ2_coderFromArrayLen_85cad 2 = .ok (.arraylength, 1) := by decide +kernel
theorem dJ2_coderFromArrayLen_85cad_3 : decode cJ2_coderFromArrayLen_85cad 3 = .ok (.isub, 1) := by decide +kernel
theorem dJ2_coderFromArrayLen_85cad_4 : decode cJ2_coderFromArrayLen_85cad 4 = .ok (.bipush 31, 2) := by decide +kernel
theorem dJ2_coderFromArrayLen_85cad_6 : decode cJ2_coderFromArrayLen_85cad 6 = .ok (.iushr, 1) := by decide +kernel
theorem dJ2_coderFromArrayLen_85cad_7 : decode cJ2_coderFromArrayLen_85cad 7 = .ok (.i2b, 1) := by decide +kernel
theorem dJ2_coderFromArrayLen_85cad_8 : decode cJ2_coderFromArrayLen_85cad 8 = .ok (.ireturn, 1) := by decide +kernel
theorem dJ2_compress_39247_0 : decode cJ2_compress_39247 0 = .ok (.iload_n 2, 1) := by decide +kernel
theorem dJ2_compress_39247_1 : decode cJ2_compress_39247 1 = .ok (.newarray .byte, 2) := by decide +kernel
theorem dJ2_compress_39247_3 : decode cJ2_compress_39247 3 = .ok (.astore_n 3, 1) := by decide +kernel
theorem dJ2_compress_39247_4 : decode cJ2_compress_39247 4 = .ok (.aload_n 0, 1) := by decide +kernel
theorem dJ2_compress_39247_5 : decode cJ2_compress_39247 5 = .ok (.iload_n 1, 1) := by decide +kernel
theorem dJ2_compress_39247_6 : decode cJ2_compress_39247 6 = .ok (.aload_n 3, 1) := by decide +kernel
theorem dJ2_compress_39247_7 : decode cJ2_compress_39247 7 = .ok (.iconst 0, 1) := by decide +kernel
theorem dJ2_compress_39247_8 : decode cJ2_compress_39247 8 = .ok (.iload_n 2, 1) := by decide +kernel
theorem dJ2_compress_39247_9 : decode cJ2_compress_39247 9 = .ok (.invokestatic 123, 3) := by decide +kernel
theorem dJ2_compress_39247_12 : decode cJ2_compress_39247 12 = .ok (.istore 4, 2) := by decide +kernel
theorem dJ2_compress_39247_14 : decode cJ2_compress_39247 14 = .ok (.iload 4, 2) := by decide +kernel
theorem dJ2_compress_39247_16 : decode cJ2_compress_39247 16 = .ok (.iload_n 2, 1) := by decide +kernel
theorem dJ2_compress_39247_17 : decode cJ2_compress_39247 17 = .ok (.if_icmp .eq 47, 3) := by decide +kernel
theorem dJ2_compress_39247_20 : decode cJ2_compress_39247 20 = .ok (.aload_n 0, 1) := by decide +kernel
theorem dJ2_compress_39247_21 : decode cJ2_compress_39247 21 = .ok (.iload_n 1, 1) := by decide +kernel
theorem dJ2_compress_39247_22 : decode cJ2_compress_39247 22 = .ok (.iconst 1, 1) := by decide +kernel
theorem dJ2_compress_39247_23 : decode cJ2_compress_39247 23 = .ok (.ishl, 1) := by decide +kernel
theorem dJ2_compress_39247_24 : decode cJ2_compress_39247 24 = .ok (.iload_n 1, 1) := by decide +kernel
theorem dJ2_compress_39247_25 : decode cJ2_compress_39247 25 = .ok (.iload_n 2, 1) := by decide +kernel
theorem dJ2_compress_39247_26 : decode cJ2_compress_39247 26 = .ok (.iadd, 1) := by decide +kernel
theorem dJ2_compress_39247_27 : decode cJ2_compress_39247 27 = .ok (.invokestatic 11, 3) := by decide +kernel
theorem dJ2_compress_39247_30 : decode cJ2_compress_39247 30 = .ok (.invokestatic 126, 3) := by decide +kernel
theorem dJ2_compress_39247_33 : decode cJ2_compress_39247 33 = .ok (.astore 5, 2) := by decide +kernel
theorem dJ2_compress_39247_35 : decode cJ2_compress_39247 35 = .ok (.aload 5, 2) := by decide +kernel
theorem dJ2_compress_39247_37 : decode cJ2_compress_39247 37 = .ok (.iload 4, 2) := by decide +kernel
theorem dJ2_compress_39247_39 : decode cJ2_compress_39247 39 = .ok (.invokestatic 71, 3) := by decide +kernel
theorem dJ2_compress_39247_42 : decode cJ2_compress_39247 42 = .ok (.sipush 255, 3) := by decide +kernel
theorem dJ2_compress_39247_45 : decode cJ2_compress_39247 45 = .ok (.if_icmp .gt 16, 3) := by decide +kernel
theorem dJ2_compress_39247_48 : decode cJ2_compress_39247 48 = .ok (.aload 5, 2) := by decide +kernel
theorem dJ2_compress_39247_50 : decode cJ2_compress_39247 50 = .ok (.iconst 0, 1) := by decide +kernel
theorem dJ2_compress_39247_51 : decode cJ2_compress_39247 51 = .ok (.aload_n 3, 1) := by decide +kernel
theorem dJ2_compress_39247_52 : decode cJ2_compress_39247 52 = .ok (.iconst 0, 1) := by decide +kernel
theorem dJ2_compress_39247_53 : decode cJ2_compress_39247 53 = .ok (.iload_n 2, 1) := by decide +kernel
theorem dJ2_compress_39247_54 : decode cJ2_compress_39247 54 = .ok (.invokestatic 123, 3) := by decide +kernel
theorem dJ2_compress_39247_57 : decode cJ2_compress_39247 57 = .ok (.iload_n 2, 1) := by decide +kernel
theorem dJ2_compress_39247_58 : decode cJ2_compress_39247 58 = .ok (.if_icmp .eq 6, 3) := by decide +kernel
theorem dJ2_compress_39247_61 : decode cJ2_compress_39247 61 = .ok (.aload 5, 2) := by decide +kernel
theorem dJ2_compress_39247_63 : decode cJ2_compress_39247 63 = .ok (.areturn, 1) := by decide +kernel
theorem dJ2_compress_39247_64 : decode cJ2_compress_39247 64 = .ok (.aload_n 3, 1) := by decide +kernel
theorem dJ2_compress_39247_65 : decode cJ2_compress_39247 65 = .ok (.areturn, 1) := by decide +kernel
theorem dJ2_compress_5af95_0 : decode cJ2_compress_5af95 0 = .ok (.iload_n 1, 1) := by decide +kernel
theorem dJ2_compress_5af95_1 : decode cJ2_compress_5af95 1 = .ok (.iload 4, 2) := by decide +kernel
theorem dJ2_compress_5af95_3 : decode cJ2_compress_5af95 3 = .ok (.aload_n 0, 1) := by decide +kernel
theorem dJ2_compress_5af95_4 : decode cJ2_compress_5af95 4 = .ok (.invokestatic 173, 3) := by decide +kernel
theorem dJ2_compress_5af95_7 : decode cJ2_compress_5af95 7 = .ok (.iconst 0, 1) := by decide +kernel
theorem dJ2_compress_5af95_8 : decode cJ2_compress_5af95 8 = .ok (.istore 5, 2) := by decide +kernel
theorem dJ2_compress_5af95_10 : decode cJ2_compress_5af95 10 = .ok (.iload 5, 2) := by decide +kernel
theorem dJ2_compress_5af95_12 : decode cJ2_compress_5af95 12 = .ok (.iload 4, 2) := by decide +kernel
theorem dJ2_compress_5af95_14 : decode cJ2_compress_5af95 14 = .ok (.if_icmp .ge 39, 3) := by decide +kernel
theorem dJ2_compress_5af95_17 : decode cJ2_compress_5af95 17 = .ok (.aload_n 0, 1) := by decide +kernel
theorem dJ2_compress_5af95_18 : decode cJ2_compress_5af95 18 = .ok (.iload_n 1, 1) := by decide +kernel
theorem dJ2_compress_5af95_19 : decode cJ2_compress_5af95 19 = .ok (.invokestatic 71, 3) := by decide +kernel
theorem dJ2_compress_5af95_22 : decode cJ2_compress_5af95 22 = .ok (.istore 6, 2) := by decide +kernel
theorem dJ2_compress_5af95_24 : decode cJ2_compress_5af95 24 = .ok (.iload 6, 2) := by decide +kernel
theorem dJ2_compress_5af95_26 : decode cJ2_compress_5af95 26 = .ok (.sipush 255, 3) := by decide +kernel
theorem dJ2_compress_5af95_29 : decode cJ2_compress_5af95 29 = .ok (.if_icmp .le 6, 3) := by decide +kernel
theorem dJ2_compress_5af95_32 : decode cJ2_compress_5af95 32 = .ok (.iload 5, 2) := by decide +kernel
theorem dJ2_compress_5af95_34 : decode cJ2_compress_5af95 34 = .ok (.ireturn, 1) := by decide +kernel
theorem dJ2_compress_5af95_35 : decode cJ2_compress_5af95 35 = .ok (.aload_n 2, 1) := by decide +kernel
theorem dJ2_compress_5af95_36 : decode cJ2_compress_5af95 36 = .ok (.iload_n 3, 1) := by decide +kernel
theorem dJ2_compress_5af95_37 : decode cJ2_compress_5af95 37 = .ok (.iload 6, 2) := by decide +kernel
theorem dJ2_compress_5af95_39 : decode cJ2_compress_5af95 39 = .ok (.i2b, 1) := by decide +kernel
theorem dJ2_compress_5af95_40 : decode cJ2_compress_5af95 40 = .ok (.bastore, 1) := by decide +kernel
theorem dJ2_compress_5af95_41 : decode cJ2_compress_5af95 41 = .ok (.iinc 1 1, 3) := by decide +kernel
theorem dJ2_compress_5af95_44 : decode cJ2_compress_5af95 44 = .ok (.iinc 3 1, 3) := by decide +kernel
theorem dJ2_compress_5af95_47 : decode cJ2_compress_5af95 47 = .ok (.iinc 5 1, 3) := by decide +kernel
theorem dJ2_compress_5af95_50 : decode cJ2_compress_5af95 50 = .ok (.goto (-40), 3) := by decide +kernel
theorem dJ2_compress_5af95_53 : decode cJ2_compress_5af95 53 = .ok (.iload 4, 2) := by decide +kernel
theorem dJ2_compress_5af95_55 : decode cJ2_compress_5af95 55 = .ok (.ireturn, 1) := by decide +kernel
theorem dJ2_fillNull_b72d1_0 : decode cJ2_fillNull_b72d1 0 = .ok (.aload_n 0, 1) := by decide +kernel
theorem dJ2_fillNull_b72d1_1 : decode cJ2_fillNull_b72d1 1 = .ok (.iload_n 1, 1) := by decide +kernel
theorem dJ2_fillNull_b72d1_2 : decode cJ2_fillNull_b72d1 2 = .ok (.iconst 1, 1) := by decide +kernel
theorem dJ2_fillNull_b72d1_3 : decode cJ2_fillNull_b72d1 3 = .ok (.ishl, 1) := by decide +kernel
theorem dJ2_fillNull_b72d1_4 : decode cJ2_fillNull_b72d1 4 = .ok (.iload_n 2, 1) := by decide +kernel
theorem dJ2_fillNull_b72d1_5 : decode cJ2_fillNull_b72d1 5 = .ok (.iconst 1, 1) := by decide +kernel
theorem dJ2_fillNull_b72d1_6 : decode cJ2_fillNull_b72d1 6 = .ok (.ishl, 1) := by decide +kernel
theorem dJ2_fillNull_b72d1_7 : decode cJ2_fillNull_b72d1 7 = .ok (.iconst 0, 1) := by decide +kernel
theorem dJ2_fillNull_b72d1_8 : decode cJ2_fillNull_b72d1 8 = .ok (.invokestatic 380, 3) := by decide +kernel
theorem dJ2_fillNull_b72d1_11 : decode cJ2_fillNull_b72d1 11 = .ok (.return_, 1) := by decide +kernel
theorem dJ2_putCharSB_b72d1_0 : decode cJ2_putCharSB_b72d1 0 = .ok (.iload_n 1, 1) := by decide +kernel
theorem dJ2_putCharSB_b72d1_1 : decode cJ2_putCharSB_b72d1 1 = .ok (.aload_n 0, 1) := by decide +kernel
theorem dJ2_putCharSB_b72d1_2 : decode cJ2_putCharSB_b72d1 2 = .ok (.invokestatic 67, 3) := by decide +kernel
theorem dJ2_putCharSB_b72d1_5 : decode cJ2_putCharSB_b72d1 5 = .ok (.aload_n 0, 1) := by decide +kernel
theorem dJ2_putCharSB_b72d1_6 : decode cJ2_putCharSB_b72d1 6 = .ok (.iload_n 1, 1) := by decide +kernel
theorem dJ2_putCharSB_b72d1_7 : decode cJ2_putCharSB_b72d1 7 = .ok (.iload_n 2, 1) := by decide +kernel
theorem dJ2_putCharSB_b72d1_8 : decode cJ2_putCharSB_b72d1 8 = .ok (.invokestatic 111, 3) := by decide +kernel
theorem dJ2_putCharSB_b72d1_11 : decode cJ2_putCharSB_b72d1 11 = .ok (.return_, 1) := by decide +kernel
theorem dJ2_getChars_46870_0 : decode cJ2_getChars_46870 0 = .ok (.iload_n 1, 1) := by decide +kernel
theorem dJ2_getChars_46870_1 : decode cJ2_getChars_46870 1 = .ok (.iload_n 2, 1) := by decide +kernel
theorem dJ2_getChars_46870_2 : decode cJ2_getChars_46870 2 = .ok (.aload_n 3, 1) := by decide +kernel
theorem dJ2_getChars_46870_3 : decode cJ2_getChars_46870 3 = .ok (.invokestatic 96, 3) := by decide +kernel
theorem dJ2_getChars_46870_6 : decode cJ2_getChars_46870 6 = .ok (.iload_n 0, 1) := by decide +kernel
theorem dJ2_getChars_46870_7 : decode cJ2_getChars_46870 7 = .ok (.iload_n 2, 1) := by decide +kernel
theorem dJ2_getChars_46870_8 : decode cJ2_getChars_46870 8 = .ok (.aload_n 3, 1) := by decide +kernel
theorem dJ2_getChars_46870_9 : decode cJ2_getChars_46870 9 = .ok (.invokestatic 393, 3) := by decide +kernel
theorem dJ2_getChars_46870_12 : decode cJ2_getChars_46870 12 = .ok (.istore 4, 2) := by decide +kernel
theorem dJ2_getChars_46870_14 : decode cJ2_getChars_46870 14 = .ok (.getstatic 44, 3) := by decide +kernel
theorem dJ2_getChars_46870_17 : decode cJ2_getChars_46870 17 = .ok (.ifCond .ne 17, 3) := by decide +kernel
theorem dJ2_getChars_46870_20 : decode cJ2_getChars_46870 20 = .ok (.iload_n 1, 1) := by decide +kernel
theorem dJ2_getChars_46870_21 : decode cJ2_getChars_46870 21 = .ok (.iload 4, 2) := by decide +kernel
theorem dJ2_getChars_46870_23 : decode cJ2_getChars_46870 23 = .ok (.if_icmp .eq 11, 3) := by decide +kernel
theorem dJ2_getChars_46870_26 : decode cJ2_getChars_46870 26 = .ok (.new 52, 3) := by decide +kernel
theorem dJ2_getChars_46870_29 : decode cJ2_getChars_46870 29 = .ok (.dup, 1) := by decide +kernel
theorem dJ2_getChars_46870_30 : decode cJ2_getChars_46870 30 = .ok (.invokespecial 66, 3) := by decide +kernel
theorem dJ2_getChars_46870_33 : decode cJ2_getChars_46870 33 = .ok (.athrow, 1) := by decide +kernel
theorem dJ2_getChars_46870_34 : decode cJ2_getChars_46870 34 = .ok (.iload 4, 2) := by decide +kernel
theorem dJ2_getChars_46870_36 : decode cJ2_getChars_46870 36 = .ok (.ireturn, 1) := by decide +kernel
theorem dJ2_putCharsAt_cd4e5_0 : decode cJ2_putCharsAt_cd4e5 0 = .ok (.iload_n 1, 1) := by decide +kernel
theorem dJ2_putCharsAt_cd4e5_1 : decode cJ2_putCharsAt_cd4e5 1 = .ok (.iconst 4, 1) := by decide +kernel
theorem dJ2_putCharsAt_cd4e5_2 : decode cJ2_putCharsAt_cd4e5 2 = .ok (.iadd, 1) := by decide +kernel
theorem dJ2_putCharsAt_cd4e5_3 : decode cJ2_putCharsAt_cd4e5 3 = .ok (.istore 6, 2) := by decide +kernel
theorem dJ2_putCharsAt_cd4e5_5 : decode cJ2_putCharsAt_cd4e5 5 = .ok (.iload_n 1, 1) := by decide +kernel
theorem dJ2_putCharsAt_cd4e5_6 : decode cJ2_putCharsAt_cd4e5 6 = .ok (.iload 6, 2) := by decide +kernel
theorem dJ2_putCharsAt_cd4e5_8 : decode cJ2_putCharsAt_cd4e5 8 = .ok (.aload_n 0, 1) := by decide +kernel
theorem dJ2_putCharsAt_cd4e5_9 : decode cJ2_putCharsAt_cd4e5 9 = .ok (.invokestatic 96, 3) := by decide +kernel
theorem dJ2_putCharsAt_cd4e5_12 : decode cJ2_putCharsAt_cd4e5 12 = .ok (.aload_n 0, 1) := by decide +kernel
theorem dJ2_putCharsAt_cd4e5_13 : decode cJ2_putCharsAt_cd4e5 13 = .ok (.iload_n 1, 1) := by decide +kernel
theorem dJ2_putCharsAt_cd4e5_14 : decode cJ2_putCharsAt_cd4e5 14 = .ok (.iinc 1 1, 3) := by decide +kernel
theorem dJ2_putCharsAt_cd4e5_17 : decode cJ2_putCharsAt_cd4e5 17 = .ok (.iload_n 2, 1) := by decide +kernel
theorem dJ2_putCharsAt_cd4e5_18 : decode cJ2_putCharsAt_cd4e5 18 = .ok (.invokestatic 111, 3) := by decide +kernel
theorem dJ2_putCharsAt_cd4e5_21 : decode cJ2_putCharsAt_cd4e5 21 = .ok (.aload_n 0, 1) := by decide +kernel
theorem dJ2_putCharsAt_cd4e5_22 : decode cJ2_putCharsAt_cd4e5 22 = .ok (.iload_n 1, 1) := by decide +kernel
theorem dJ2_putCharsAt_cd4e5_23 : decode cJ2_putCharsAt_cd4e5 23 = .ok (.iinc 1 1, 3) := by decide +kernel
theorem dJ2_putCharsAt_cd4e5_26 : decode cJ2_putCharsAt_cd4e5 26 = .ok (.iload_n 3, 1) := by decide +kernel
theorem dJ2_putCharsAt_cd4e5_27 : decode cJ2_putCharsAt_cd4e5 27 = .ok (.invokestatic 111, 3) := by decide +kernel
theorem dJ2_putCharsAt_cd4e5_30 : decode cJ2_putCharsAt_cd4e5 30 = .ok (.aload_n 0, 1) := by decide +kernel
theorem dJ2_putCharsAt_cd4e5_31 : decode cJ2_putCharsAt_cd4e5 31 = .ok (.iload_n 1, 1) := by decide +kernel
theorem dJ2_putCharsAt_cd4e5_32 : decode cJ2_putCharsAt_cd4e5 32 = .ok (.iinc 1 1, 3) := by decide +kernel
theorem dJ2_putCharsAt_cd4e5_35 : decode cJ2_putCharsAt_cd4e5 35 = .ok (.iload 4, 2) := by decide +kernel
theorem dJ2_putCharsAt_cd4e5_37 : decode cJ2_putCharsAt_cd4e5 37 = .ok (.invokestatic 111, 3) := by decide +kernel
theorem dJ2_putCharsAt_cd4e5_40 : decode cJ2_putCharsAt_cd4e5 40 = .ok (.aload_n 0, 1) := by decide +kernel
theorem dJ2_putCharsAt_cd4e5_41 : decode cJ2_putCharsAt_cd4e5 41 = .ok (.iload_n 1, 1) := by decide +kernel
theorem dJ2_putCharsAt_cd4e5_42 : decode cJ2_putCharsAt_cd4e5 42 = .ok (.iinc 1 1, 3) := by decide +kernel
theorem dJ2_putCharsAt_cd4e5_45 : decode cJ2_putCharsAt_cd4e5 45 = .ok (.iload 5, 2) := by decide +kernel
theorem dJ2_putCharsAt_cd4e5_47 : decode cJ2_putCharsAt_cd4e5 47 = .ok (.invokestatic 111, 3) := by decide +kernel
theorem dJ2_putCharsAt_cd4e5_50 : decode cJ2_putCharsAt_cd4e5 50 = .ok (.getstatic 44, 3) := by decide +kernel
theorem dJ2_putCharsAt_cd4e5_53 : decode cJ2_putCharsAt_cd4e5 53 = .ok (.ifCond .ne 17, 3) := by decide +kernel
theorem dJ2_putCharsAt_cd4e5_56 : decode cJ2_putCharsAt_cd4e5 56 = .ok (.iload_n 1, 1) := by decide +kernel
theorem dJ2_putCharsAt_cd4e5_57 : decode cJ2_putCharsAt_cd4e5 57 = .ok (.iload 6, 2) := by decide +kernel
theorem dJ2_putCharsAt_cd4e5_59 : decode cJ2_putCharsAt_cd4e5 59 = .ok (.if_icmp .eq 11, 3) := by decide +kernel
theorem dJ2_putCharsAt_cd4e5_62 : decode cJ2_putCharsAt_cd4e5 62 = .ok (.new 52, 3) := by decide +kernel
theorem dJ2_putCharsAt_cd4e5_65 : decode cJ2_putCharsAt_cd4e5 65 = .ok (.dup, 1) := by decide +kernel
theorem dJ2_putCharsAt_cd4e5_66 : decode cJ2_putCharsAt_cd4e5 66 = .ok (.invokespecial 66, 3) := by decide +kernel
theorem dJ2_putCharsAt_cd4e5_69 : decode cJ2_putCharsAt_cd4e5 69 = .ok (.athrow, 1) := by decide +kernel
theorem dJ2_putCharsAt_cd4e5_70 : decode cJ2_putCharsAt_cd4e5 70 = .ok (.iload 6, 2) := by decide +kernel
theorem dJ2_putCharsAt_cd4e5_72 : decode cJ2_putCharsAt_cd4e5 72 = .ok (.ireturn, 1) := by decide +kernel
theorem dJ2_inflate_0e8fd_0 : decode cJ2_inflate_0e8fd 0 = .ok (.iload_n 3, 1) := by decide +kernel
theorem dJ2_inflate_0e8fd_1 : decode cJ2_inflate_0e8fd 1 = .ok (.iload 4, 2) := by decide +kernel
theorem dJ2_inflate_0e8fd_3 : decode cJ2_inflate_0e8fd 3 = .ok (.aload_n 2, 1) := by decide +kernel
theorem dJ2_inflate_0e8fd_4 : decode cJ2_inflate_0e8fd 4 = .ok (.invokestatic 173, 3) := by decide +kernel
theorem dJ2_inflate_0e8fd_7 : decode cJ2_inflate_0e8fd 7 = .ok (.iconst 0, 1) := by decide +kernel
theorem dJ2_inflate_0e8fd_8 : decode cJ2_inflate_0e8fd 8 = .ok (.istore 5, 2) := by decide +kernel
theorem dJ2_inflate_0e8fd_10 : decode cJ2_inflate_0e8fd 10 = .ok (.iload 5, 2) := by decide +kernel
theorem dJ2_inflate_0e8fd_12 : decode cJ2_inflate_0e8fd 12 = .ok (.iload 4, 2) := by decide +kernel
theorem dJ2_inflate_0e8fd_14 : decode cJ2_inflate_0e8fd 14 = .ok (.if_icmp .ge 27, 3) := by decide +kernel
theorem dJ2_inflate_0e8fd_17 : decode cJ2_inflate_0e8fd 17 = .ok (.aload_n 2, 1) := by decide +kernel
theorem dJ2_inflate_0e8fd_18 : decode cJ2_inflate_0e8fd 18 = .ok (.iload_n 3, 1) := by decide +kernel
theorem dJ2_inflate_0e8fd_19 : decode cJ2_inflate_0e8fd 19 = .ok (.iinc 3 1, 3) := by decide +kernel
theorem dJ2_inflate_0e8fd_22 : decode cJ2_inflate_0e8fd 22 = .ok (.aload_n 0, 1) := by decide +kernel
theorem dJ2_inflate_0e8fd_23 : decode cJ2_inflate_0e8fd 23 = .ok (.iload_n 1, 1) := by decide +kernel
theorem dJ2_inflate_0e8fd_24 : decode cJ2_inflate_0e8fd 24 = .ok (.iinc 1 1, 3) := by decide +kernel
theorem dJ2_inflate_0e8fd_27 : decode cJ2_inflate_0e8fd 27 = .ok (.baload, 1) := by decide +kernel
theorem dJ2_inflate_0e8fd_28 : decode cJ2_inflate_0e8fd 28 = .ok (.sipush 255, 3) := by decide +kernel
theorem dJ2_inflate_0e8fd_31 : decode cJ2_inflate_0e8fd 31 = .ok (.iand, 1) := by decide +kernel
theorem dJ2_inflate_0e8fd_32 : decode cJ2_inflate_0e8fd 32 = .ok (.invokestatic 111, 3) := by decide +kernel
theorem dJ2_inflate_0e8fd_35 : decode cJ2_inflate_0e8fd 35 = .ok (.iinc 5 1, 3) := by decide +kernel
theorem dJ2_inflate_0e8fd_38 : decode cJ2_inflate_0e8fd 38 = .ok (.goto (-28), 3) := by decide +kernel
theorem dJ2_inflate_0e8fd_41 : decode cJ2_inflate_0e8fd 41 = .ok (.return_, 1) := by decide +kernel
theorem dJ2_getChars_ba4f3_0 : decode cJ2_getChars_ba4f3 0 = .ok (.iload_n 1, 1) := by decide +kernel
theorem dJ2_getChars_ba4f3_1 : decode cJ2_getChars_ba4f3 1 = .ok (.istore 5, 2) := by decide +kernel
theorem dJ2_getChars_ba4f3_3 : decode cJ2_getChars_ba4f3 3 = .ok (.iload_n 0, 1) := by decide +kernel
theorem dJ2_getChars_ba4f3_4 : decode cJ2_getChars_ba4f3 4 = .ok (.ifCond .ge 7, 3) := by decide +kernel
theorem dJ2_getChars_ba4f3_7 : decode cJ2_getChars_ba4f3 7 = .ok (.iconst 1, 1) := by decide +kernel
theorem dJ2_getChars_ba4f3_8 : decode cJ2_getChars_ba4f3 8 = .ok (.goto 4, 3) := by decide +kernel
theorem dJ2_getChars_ba4f3_11 : decode cJ2_getChars_ba4f3 11 = .ok (.iconst 0, 1) := by decide +kernel
theorem dJ2_getChars_ba4f3_12 : decode cJ2_getChars_ba4f3 12 = .ok (.istore 6, 2) := by decide +kernel
theorem dJ2_getChars_ba4f3_14 : decode cJ2_getChars_ba4f3 14 = .ok (.iload 6, 2) := by decide +kernel
theorem dJ2_getChars_ba4f3_16 : decode cJ2_getChars_ba4f3 16 = .ok (.ifCond .ne 6, 3) := by decide +kernel
theorem dJ2_getChars_ba4f3_19 : decode cJ2_getChars_ba4f3 19 = .ok (.iload_n 0, 1) := by decide +kernel
theorem dJ2_getChars_ba4f3_20 : decode cJ2_getChars_ba4f3 20 = .ok (.ineg, 1) := by decide +kernel
theorem dJ2_getChars_ba4f3_21 : decode cJ2_getChars_ba4f3 21 = .ok (.istore_n 0, 1) := by decide +kernel
theorem dJ2_getChars_ba4f3_22 : decode cJ2_getChars_ba4f3 22 = .ok (.iload_n 0, 1) := by decide +kernel
theorem dJ2_getChars_ba4f3_23 : decode cJ2_getChars_ba4f3 23 = .ok (.bipush (-100), 2) := by decide +kernel
theorem dJ2_getChars_ba4f3_25 : decode cJ2_getChars_ba4f3 25 = .ok (.if_icmp .gt 51, 3) := by decide +kernel
theorem dJ2_getChars_ba4f3_28 : decode cJ2_getChars_ba4f3 28 = .ok (.iload_n 0, 1) := by decide +kernel
theorem dJ2_getChars_ba4f3_29 : decode cJ2_getChars_ba4f3 29 = .ok (.bipush 100, 2) := by decide +kernel
theorem dJ2_getChars_ba4f3_31 : decode cJ2_getChars_ba4f3 31 = .ok (.idiv, 1) := by decide +kernel
theorem dJ2_getChars_ba4f3_32 : decode cJ2_getChars_ba4f3 32 = .ok (.istore_n 3, 1) := by decide +kernel
theorem dJ2_getChars_ba4f3_33 : decode cJ2_getChars_ba4f3 33 = .ok (.iload_n 3, 1) := by decide +kernel
theorem dJ2_getChars_ba4f3_34 : decode cJ2_getChars_ba4f3 34 = .ok (.bipush 100, 2) := by decide +kernel
theorem dJ2_getChars_ba4f3_36 : decode cJ2_getChars_ba4f3 36 = .ok (.imul, 1) := by decide +kernel
theorem dJ2_getChars_ba4f3_37 : decode cJ2_getChars_ba4f3 37 = .ok (.iload_n 0, 1) := by decide +kernel
theorem dJ2_getChars_ba4f3_38 : decode cJ2_getChars_ba4f3 38 = .ok (.isub, 1) := by decide +kernel
theorem dJ2_getChars_ba4f3_39 : decode cJ2_getChars_ba4f3 39 = .ok (.istore 4, 2) := by decide +kernel
theorem dJ2_getChars_ba4f3_41 : decode cJ2_getChars_ba4f3 41 = .ok (.iload_n 3, 1) := by decide +kernel
theorem dJ2_getChars_ba4f3_42 : decode cJ2_getChars_ba4f3 42 = .ok (.istore_n 0, 1) := by decide +kernel
theorem dJ2_getChars_ba4f3_43 : decode cJ2_getChars_ba4f3 43 = .ok (.aload_n 2, 1) := by decide +kernel
theorem dJ2_getChars_ba4f3_44 : decode cJ2_getChars_ba4f3 44 = .ok (.iinc 5 (-1), 3) := by decide +kernel
theorem dJ2_getChars_ba4f3_47 : decode cJ2_getChars_ba4f3 47 = .ok (.iload 5, 2) := by decide +kernel
theorem dJ2_getChars_ba4f3_49 : decode cJ2_getChars_ba4f3 49 = .ok (.getstatic 403, 3) := by decide +kernel
theorem dJ2_getChars_ba4f3_52 : decode cJ2_getChars_ba4f3 52 = .ok (.iload 4, 2) := by decide +kernel
theorem dJ2_getChars_ba4f3_54 : decode cJ2_getChars_ba4f3 54 = .ok (.baload, 1) := by decide +kernel
theorem dJ2_getChars_ba4f3_55 : decode cJ2_getChars_ba4f3 55 = .ok (.invokestatic 111, 3) := by decide +kernel
theorem dJ2_getChars_ba4f3_58 : decode cJ2_getChars_ba4f3 58 = .ok (.aload_n 2, 1) := by decide +kernel
theorem dJ2_getChars_ba4f3_59 : decode cJ2_getChars_ba4f3 59 = .ok (.iinc 5 (-1), 3) := by decide +kernel
theorem dJ2_getChars_ba4f3_62 : decode cJ2_getChars_ba4f3 62 = .ok (.iload 5, 2) := by decide +kernel
theorem dJ2_getChars_ba4f3_64 : decode cJ2_getChars_ba4f3 64 = .ok (.getstatic 407, 3) := by decide +kernel
theorem dJ2_getChars_ba4f3_67 : decode cJ2_getChars_ba4f3 67 = .ok (.iload 4, 2) := by decide +kernel
theorem dJ2_getChars_ba4f3_69 : decode cJ2_getChars_ba4f3 69 = .ok (.baload, 1) := by decide +kernel
theorem dJ2_getChars_ba4f3_70 : decode cJ2_getChars_ba4f3 70 = .ok (.invokestatic 111, 3) := by decide +kernel
theorem dJ2_getChars_ba4f3_73 : decode cJ2_getChars_ba4f3 73 = .ok (.goto (-51), 3) := by decide +kernel
theorem dJ2_getChars_ba4f3_76 : decode cJ2_getChars_ba4f3 76 = .ok (.aload_n 2, 1) := by decide +kernel
theorem dJ2_getChars_ba4f3_77 : decode cJ2_getChars_ba4f3 77 = .ok (.iinc 5 (-1), 3) := by decide +kernel
theorem dJ2_getChars_ba4f3_80 : decode cJ2_getChars_ba4f3 80 = .ok (.iload 5, 2) := by decide +kernel
theorem dJ2_getChars_ba4f3_82 : decode cJ2_getChars_ba4f3 82 = .ok (.getstatic 403, 3) := by decide +kernel
theorem dJ2_getChars_ba4f3_85 : decode cJ2_getChars_ba4f3 85 = .ok (.iload_n 0, 1) := by decide +kernel
theorem dJ2_getChars_ba4f3_86 : decode cJ2_getChars_ba4f3 86 = .ok (.ineg, 1) := by decide +kernel
theorem dJ2_getChars_ba4f3_87 : decode cJ2_getChars_ba4f3 87 = .ok (.baload, 1) := by decide +kernel
theorem dJ2_getChars_ba4f3_88 : decode cJ2_getChars_ba4f3 88 = .ok (.invokestatic 111, 3) := by decide +kernel
theorem dJ2_getChars_ba4f3_91 : decode cJ2_getChars_ba4f3 91 = .ok (.iload_n 0, 1) := by decide +kernel
theorem dJ2_getChars_ba4f3_92 : decode cJ2_getChars_ba4f3 92 = .ok (.bipush (-9), 2) := by decide +kernel
theorem dJ2_getChars_ba4f3_94 : decode cJ2_getChars_ba4f3 94 = .ok (.if_icmp .ge 18, 3) := by decide +kernel
theorem dJ2_getChars_ba4f3_97 : decode cJ2_getChars_ba4f3 97 = .ok (.aload_n 2, 1) := by decide +kernel
theorem dJ2_getChars_ba4f3_98 : decode cJ2_getChars_ba4f3 98 = .ok (.iinc 5 (-1), 3) := by decide +kernel
theorem dJ2_getChars_ba4f3_101 : decode cJ2_getChars_ba4f3 101 = .ok (.iload 5, 2) := by decide +kernel
theorem dJ2_getChars_ba4f3_103 : decode cJ2_getChars_ba4f3 103 = .ok (.getstatic 407, 3) := by decide +kernel
theorem dJ2_getChars_ba4f3_106 : decode cJ2_getChars_ba4f3 106 = .ok (.iload_n 0, 1) := by decide +kernel
theorem dJ2_getChars_ba4f3_107 : decode cJ2_getChars_ba4f3 107 = .ok (.ineg, 1) := by decide +kernel
theorem dJ2_getChars_ba4f3_108 : decode cJ2_getChars_ba4f3 108 = .ok (.baload, 1) := by decide +kernel
theorem dJ2_getChars_ba4f3_109 : decode cJ2_getChars_ba4f3 109 = .ok (.invokestatic 111, 3) := by decide +kernel
theorem dJ2_getChars_ba4f3_112 : decode cJ2_getChars_ba4f3 112 = .ok (.iload 6, 2) := by decide +kernel
theorem dJ2_getChars_ba4f3_114 : decode cJ2_getChars_ba4f3 114 = .ok (.ifCond .eq 14, 3) := by decide +kernel
theorem dJ2_getChars_ba4f3_117 : decode cJ2_getChars_ba4f3 117 = .ok (.aload_n 2, 1) := by decide +kernel
theorem dJ2_getChars_ba4f3_118 : decode cJ2_getChars_ba4f3 118 = .ok (.iinc 5 (-1), 3) := by decide +kernel
theorem dJ2_getChars_ba4f3_121 : decode cJ2_getChars_ba4f3 121 = .ok (.iload 5, 2) := by decide +kernel
theorem dJ2_getChars_ba4f3_123 : decode cJ2_getChars_ba4f3 123 = .ok (.bipush 45, 2) := by decide +kernel
theorem dJ2_getChars_ba4f3_125 : decode cJ2_getChars_ba4f3 125 = .ok (.invokestatic 111, 3) := by decide +kernel
theorem dJ2_getChars_ba4f3_128 : decode cJ2_getChars_ba4f3 128 = .ok (.iload 5, 2) := by decide +kernel
theorem dJ2_getChars_ba4f3_130 : decode cJ2_getChars_ba4f3 130 = .ok (.ireturn, 1) := by decide +kernel
theorem dJ2_checkIndex_2214a_0 : decode cJ2_checkIndex_2214a 0 = .ok (.iload_n 0, 1) := by decide +kernel
theorem dJ2_checkIndex_2214a_1 : decode cJ2_checkIndex_2214a 1 = .ok (.aload_n 1, 1) := by decide +kernel
theorem dJ2_checkIndex_2214a_2 : decode cJ2_checkIndex_2214a 2 = .ok (.invokestatic 48, 3) := by decide +kernel
theorem dJ2_checkIndex_2214a_5 : decode cJ2_checkIndex_2214a 5 = .ok (.invokestatic 414, 3) := by decide +kernel
theorem dJ2_checkIndex_2214a_8 : decode cJ2_checkIndex_2214a 8 = .ok (.return_, 1) := by decide +kernel
theorem dJ2_checkBoundsBeginEnd_d044e_0 : decode cJ2_checkBoundsBeginEnd_d044e 0 = .ok (.iload_n 0, 1) := by decide +kernel
theorem dJ2_checkBoundsBeginEnd_d044e_1 : decode cJ2_checkBoundsBeginEnd_d044e 1 = .ok (.iload_n 1, 1) := by decide +kernel
theorem dJ2_checkBoundsBeginEnd_d044e_2 : decode cJ2_checkBoundsBeginEnd_d044e 2 = .ok (.aload_n 2, 1) := by decide +kernel
theorem dJ2_checkBoundsBeginEnd_d044e_3 : decode cJ2_checkBoundsBeginEnd_d044e 3 = .ok (.invokestatic 48, 3) := by decide +kernel
theorem dJ2_checkBoundsBeginEnd_d044e_6 : decode cJ2_checkBoundsBeginEnd_d044e 6 = .ok (.invokestatic 241, 3) := by decide +kernel
theorem dJ2_checkBoundsBeginEnd_d044e_9 : decode cJ2_checkBoundsBeginEnd_d044e 9 = .ok (.return_, 1) := by decide +kernel
theorem dJ2_checkBoundsOffCount_d044e_0 : decode cJ2_checkBoundsOffCount_d044e 0 = .ok (.iload_n 0, 1) := by decide +kernel
theorem dJ2_checkBoundsOffCount_d044e_1 : decode cJ2_checkBoundsOffCount_d044e 1 = .ok (.iload_n 1, 1) := by decide +kernel
theorem dJ2_checkBoundsOffCount_d044e_2 : decode cJ2_checkBoundsOffCount_d044e 2 = .ok (.aload_n 2, 1) := by decide +kernel
theorem dJ2_checkBoundsOffCount_d044e_3 : decode cJ2_checkBoundsOffCount_d044e 3 = .ok (.invokestatic 48, 3) := by decide +kernel
theorem dJ2_checkBoundsOffCount_d044e_6 : decode cJ2_checkBoundsOffCount_d044e 6 = .ok (.invokestatic 419, 3) := by decide +kernel
theorem dJ2_checkBoundsOffCount_d044e_9 : decode cJ2_checkBoundsOffCount_d044e 9 = .ok (.pop, 1) := by decide +kernel
theorem dJ2_checkBoundsOffCount_d044e_10 : decode cJ2_checkBoundsOffCount_d044e 10 = .ok (.return_, 1) := by decide +kernel
theorem dJxa1e45_init_da8c8_0 : decode cJxa1e45_init_da8c8 0 = .ok (.aload_n 0, 1) := by decide +kernel
theorem dJxa1e45_init_da8c8_1 : decode cJxa1e45_init_da8c8 1 = .ok (.invokespecial 1, 3) := by decide +kernel
theorem dJxa1e45_init_da8c8_4 : decode cJxa1e45_init_da8c8 4 = .ok (.return_, 1) := by decide +kernel
theorem dJxc12de_init_da8c8_0 : decode cJxc12de_init_da8c8 0 = .ok (.aload_n 0, 1) := by decide +kernel
theorem dJxc12de_init_da8c8_1 : decode cJxc12de_init_da8c8 1 = .ok (.invokespecial 1, 3) := by decide +kernel
theorem dJxc12de_init_da8c8_4 : decode cJxc12de_init_da8c8 4 = .ok (.aload_n 0, 1) := by decide +kernel
theorem dJxc12de_init_da8c8_5 : decode cJxc12de_init_da8c8 5 = .ok (.iconst 0, 1) := by decide +kernel
theorem dJxc12de_init_da8c8_6 : decode cJxc12de_init_da8c8 6 = .ok (.putfield 7, 3) := by decide +kernel
theorem dJxc12de_init_da8c8_9 : decode cJxc12de_init_da8c8 9 = .ok (.return_, 1) := by decide +kernel
theorem dJx4a65c_init_da8c8_0 : decode cJx4a65c_init_da8c8 0 = .ok (.aload_n 0, 1) := by decide +kernel
theorem dJx4a65c_init_da8c8_1 : decode cJx4a65c_init_da8c8 1 = .ok (.invokespecial 1, 3) := by decide +kernel
theorem dJx4a65c_init_da8c8_4 : decode cJx4a65c_init_da8c8 4 = .ok (.aload_n 0, 1) := by decide +kernel
theorem dJx4a65c_init_da8c8_5 : decode cJx4a65c_init_da8c8 5 = .ok (.getstatic 39, 3) := by decide +kernel
theorem dJx4a65c_init_da8c8_8 : decode cJx4a65c_init_da8c8 8 = .ok (.putfield 9, 3) := by decide +kernel
theorem dJx4a65c_init_da8c8_11 : decode cJx4a65c_init_da8c8 11 = .ok (.return_, 1) := by decide +kernel
theorem dJx4a65c_grow_92f84_0 : decode cJx4a65c_grow_92f84 0 = .ok (.aload_n 0, 1) := by decide +kernel
theorem dJx4a65c_grow_92f84_1 : decode cJx4a65c_grow_92f84 1 = .ok (.getfield 9, 3) := by decide +kernel
theorem dJx4a65c_grow_92f84_4 : decode cJx4a65c_grow_92f84 4 = .ok (.arraylength, 1) := by decide +kernel
theorem dJx4a65c_grow_92f84_5 : decode cJx4a65c_grow_92f84 5 = .ok (.istore_n 2, 1) := by decide +kernel
theorem dJx4a65c_grow_92f84_6 : decode cJx4a65c_grow_92f84 6 = .ok (.iload_n 2, 1) := by decide +kernel
theorem dJx4a65c_grow_92f84_7 : decode cJx4a65c_grow_92f84 7 = .ok (.ifCond .gt 13, 3) := by decide +kernel
theorem dJx4a65c_grow_92f84_10 : decode cJx4a65c_grow_92f84 10 = .ok (.aload_n 0, 1) := by decide +kernel
theorem dJx4a65c_grow_92f84_11 : decode cJx4a65c_grow_92f84 11 = .ok (.getfield 9, 3) := by decide +kernel
theorem dJx4a65c_grow_92f84_14 : decode cJx4a65c_grow_92f84 14 = .ok (.getstatic 39, 3) := by decide +kernel
theorem dJx4a65c_grow_92f84_17 : decode cJx4a65c_grow_92f84 17 = .ok (.if_acmp .eq 28, 3) := by decide +kernel
theorem dJx4a65c_grow_92f84_20 : decode cJx4a65c_grow_92f84 20 = .ok (.iload_n 2, 1) := by decide +kernel
theorem dJx4a65c_grow_92f84_21 : decode cJx4a65c_grow_92f84 21 = .ok (.iload_n 1, 1) := by decide +kernel
theorem dJx4a65c_grow_92f84_22 : decode cJx4a65c_grow_92f84 22 = .ok (.iload_n 2, 1) := by decide +kernel
theorem dJx4a65c_grow_92f84_23 : decode cJx4a65c_grow_92f84 23 = .ok (.isub, 1) := by decide +kernel
theorem dJx4a65c_grow_92f84_24 : decode cJx4a65c_grow_92f84 24 = .ok (.iload_n 2, 1) := by decide +kernel
theorem dJx4a65c_grow_92f84_25 : decode cJx4a65c_grow_92f84 25 = .ok (.iconst 1, 1) := by decide +kernel
theorem dJx4a65c_grow_92f84_26 : decode cJx4a65c_grow_92f84 26 = .ok (.ishr, 1) := by decide +kernel
theorem dJx4a65c_grow_92f84_27 : decode cJx4a65c_grow_92f84 27 = .ok (.invokestatic 73, 3) := by decide +kernel
theorem dJx4a65c_grow_92f84_30 : decode cJx4a65c_grow_92f84 30 = .ok (.istore_n 3, 1) := by decide +kernel
theorem dJx4a65c_grow_92f84_31 : decode cJx4a65c_grow_92f84 31 = .ok (.aload_n 0, 1) := by decide +kernel
theorem dJx4a65c_grow_92f84_32 : decode cJx4a65c_grow_92f84 32 = .ok (.aload_n 0, 1) := by decide +kernel
theorem dJx4a65c_grow_92f84_33 : decode cJx4a65c_grow_92f84 33 = .ok (.getfield 9, 3) := by decide +kernel
theorem dJx4a65c_grow_92f84_36 : decode cJx4a65c_grow_92f84 36 = .ok (.iload_n 3, 1) := by decide +kernel
theorem dJx4a65c_grow_92f84_37 : decode cJx4a65c_grow_92f84 37 = .ok (.invokestatic 66, 3) := by decide +kernel
theorem dJx4a65c_grow_92f84_40 : decode cJx4a65c_grow_92f84 40 = .ok (.dup_x1, 1) := by decide +kernel
theorem dJx4a65c_grow_92f84_41 : decode cJx4a65c_grow_92f84 41 = .ok (.putfield 9, 3) := by decide +kernel
theorem dJx4a65c_grow_92f84_44 : decode cJx4a65c_grow_92f84 44 = .ok (.areturn, 1) := by decide +kernel
theorem dJx4a65c_grow_92f84_45 : decode cJx4a65c_grow_92f84 45 = .ok (.aload_n 0, 1) := by decide +kernel
theorem dJx4a65c_grow_92f84_46 : decode cJx4a65c_grow_92f84 46 = .ok (.bipush 10, 2) := by decide +kernel
theorem dJx4a65c_grow_92f84_48 : decode cJx4a65c_grow_92f84 48 = .ok (.iload_n 1, 1) := by decide +kernel
theorem dJx4a65c_grow_92f84_49 : decode cJx4a65c_grow_92f84 49 = .ok (.invokestatic 79, 3) := by decide +kernel
theorem dJx4a65c_grow_92f84_52 : decode cJx4a65c_grow_92f84 52 = .ok (.anewarray 7, 3) := by decide +kernel
theorem dJx4a65c_grow_92f84_55 : decode cJx4a65c_grow_92f84 55 = .ok (.dup_x1, 1) := by decide +kernel
theorem dJx4a65c_grow_92f84_56 : decode cJx4a65c_grow_92f84 56 = .ok (.putfield 9, 3) := by decide +kernel
theorem dJx4a65c_grow_92f84_59 : decode cJx4a65c_grow_92f84 59 = .ok (.areturn, 1) := by decide +kernel
theorem dJx4a65c_grow_d5877_0 : decode cJx4a65c_grow_d5877 0 = .ok (.aload_n 0, 1) := by decide +kernel
theorem dJx4a65c_grow_d5877_1 : decode cJx4a65c_grow_d5877 1 = .ok (.aload_n 0, 1) := by decide +kernel
theorem dJx4a65c_grow_d5877_2 : decode cJx4a65c_grow_d5877 2 = .ok (.getfield 48, 3) := by decide +kernel
theorem dJx4a65c_grow_d5877_5 : decode cJx4a65c_grow_d5877 5 = .ok (.iconst 1, 1) := by decide +kernel
theorem dJx4a65c_grow_d5877_6 : decode cJx4a65c_grow_d5877 6 = .ok (.iadd, 1) := by decide +kernel
theorem dJx4a65c_grow_d5877_7 : decode cJx4a65c_grow_d5877 7 = .ok (.invokevirtual 69, 3) := by decide +kernel
theorem dJx4a65c_grow_d5877_10 : decode cJx4a65c_grow_d5877 10 = .ok (.areturn, 1) := by decide +kernel
theorem dJx4a65c_size_8abf5_0 : decode cJx4a65c_size_8abf5 0 = .ok (.aload_n 0, 1) := by decide +kernel
theorem dJx4a65c_size_8abf5_1 : decode cJx4a65c_size_8abf5 1 = .ok (.getfield 48, 3) := by decide +kernel
theorem dJx4a65c_size_8abf5_4 : decode cJx4a65c_size_8abf5 4 = .ok (.ireturn, 1) := by decide +kernel
theorem dJx4a65c_isEmpty_aae02_0 : decode cJx4a65c_isEmpty_aae02 0 = .ok (.aload_n 0, 1) := by decide +kernel
theorem dJx4a65c_isEmpty_aae02_1 : decode cJx4a65c_isEmpty_aae02 1 = .ok (.getfield 48, 3) := by decide +kernel
theorem dJx4a65c_isEmpty_aae02_4 : decode cJx4a65c_isEmpty_aae02 4 = .ok (.ifCond .ne 7, 3) := by decide +kernel
theorem dJx4a65c_isEmpty_aae02_7 : decode cJx4a65c_isEmpty_aae02 7 = .ok (.iconst 1, 1) := by decide +kernel
theorem dJx4a65c_isEmpty_aae02_8 : decode cJx4a65c_isEmpty_aae02 8 = .ok (.goto 4, 3) := by decide +kernel
theorem dJx4a65c_isEmpty_aae02_11 : decode cJx4a65c_isEmpty_aae02 11 = .ok (.iconst 0, 1) := by decide +kernel
theorem dJx4a65c_isEmpty_aae02_12 : decode cJx4a65c_isEmpty_aae02 12 = .ok (.ireturn, 1) := by decide +kernel
theorem dJx4a65c_elementData_915e3_0 : decode cJx4a65c_elementData_915e3 0 = .ok (.aload_n 0, 1) := by decide +kernel
theorem dJx4a65c_elementData_915e3_1 : decode cJx4a65c_elementData_915e3 1 = .ok (.getfield 9, 3) := by decide +kernel
theorem dJx4a65c_elementData_915e3_4 : decode cJx4a65c_elementData_915e3 4 = .ok (.iload_n 1, 1) := by decide +kernel
theorem dJx4a65c_elementData_915e3_5 : decode cJx4a65c_elementData_915e3 5 = .ok (.aaload, 1) := by decide +kernel
theorem dJx4a65c_elementData_915e3_6 : decode cJx4a65c_elementData_915e3 6 = .ok (.areturn, 1) := by decide +kernel
theorem dJx4a65c_get_915e3_0 : decode cJx4a65c_get_915e3 0 = .ok (.iload_n 1, 1) := by decide +kernel
theorem dJx4a65c_get_915e3_1 : decode cJx4a65c_get_915e3 1 = .ok (.aload_n 0, 1) := by decide +kernel
theorem dJx4a65c_get_915e3_2 : decode cJx4a65c_get_915e3 2 = .ok (.getfield 48, 3) := by decide +kernel
theorem dJx4a65c_get_915e3_5 : decode cJx4a65c_get_915e3 5 = .ok (.invokestatic 118, 3) := by decide +kernel
theorem dJx4a65c_get_915e3_8 : decode cJx4a65c_get_915e3 8 = .ok (.pop, 1) := by decide +kernel
theorem dJx4a65c_get_915e3_9 : decode cJx4a65c_get_915e3 9 = .ok (.aload_n 0, 1) := by decide +kernel
theorem dJx4a65c_get_915e3_10 : decode cJx4a65c_get_915e3 10 = .ok (.iload_n 1, 1) := by decide +kernel
theorem dJx4a65c_get_915e3_11 : decode cJx4a65c_get_915e3 11 = .ok (.invokevirtual 123, 3) := by decide +kernel
theorem dJx4a65c_get_915e3_14 : decode cJx4a65c_get_915e3 14 = .ok (.areturn, 1) := by decide +kernel
theorem dJx4a65c_add_72be8_0 : decode cJx4a65c_add_72be8 0 = .ok (.iload_n 3, 1) := by decide +kernel
theorem dJx4a65c_add_72be8_1 : decode cJx4a65c_add_72be8 1 = .ok (.aload_n 2, 1) := by decide +kernel
theorem dJx4a65c_add_72be8_2 : decode cJx4a65c_add_72be8 2 = .ok (.arraylength, 1) := by decide +kernel
theorem dJx4a65c_add_72be8_3 : decode cJx4a65c_add_72be8 3 = .ok (.if_icmp .ne 8, 3) := by decide +kernel
theorem dJx4a65c_add_72be8_6 : decode cJx4a65c_add_72be8 6 = .ok (.aload_n 0, 1) := by decide +kernel
theorem dJx4a65c_add_72be8_7 : decode cJx4a65c_add_72be8 7 = .ok (.invokevirtual 129, 3) := by decide +kernel
theorem dJx4a65c_add_72be8_10 : decode cJx4a65c_add_72be8 10 = .ok (.astore_n 2, 1) := by decide +kernel
theorem dJx4a65c_add_72be8_11 : decode cJx4a65c_add_72be8 11 = .ok (.aload_n 2, 1) := by decide +kernel
theorem dJx4a65c_add_72be8_12 : decode cJx4a65c_add_72be8 12 = .ok (.iload_n 3, 1) := by decide +kernel
theorem dJx4a65c_add_72be8_13 : decode cJx4a65c_add_72be8 13 = .ok (.aload_n 1, 1) := by decide +kernel
theorem dJx4a65c_add_72be8_14 : decode cJx4a65c_add_72be8 14 = .ok (.aastore, 1) := by decide +kernel
theorem dJx4a65c_add_72be8_15 : decode cJx4a65c_add_72be8 15 = .ok (.aload_n 0, 1) := by decide +kernel
theorem dJx4a65c_add_72be8_16 : decode cJx4a65c_add_72be8 16 = .ok (.iload_n 3, 1) := by decide +kernel
theorem dJx4a65c_add_72be8_17 : decode cJx4a65c_add_72be8 17 = .ok (.iconst 1, 1) := by decide +kernel
theorem dJx4a65c_add_72be8_18 : decode cJx4a65c_add_72be8 18 = .ok (.iadd, 1) := by decide +kernel
theorem dJx4a65c_add_72be8_19 : decode cJx4a65c_add_72be8 19 = .ok (.putfield 48, 3) := by decide +kernel
theorem dJx4a65c_add_72be8_22 : decode cJx4a65c_add_72be8 22 = .ok (.return_, 1) := by decide +kernel
theorem dJx4a65c_add_9ea2d_0 : decode cJx4a65c_add_9ea2d 0 = .ok (.aload_n 0, 1) := by decide +kernel
theorem dJx4a65c_add_9ea2d_1 : decode cJx4a65c_add_9ea2d 1 = .ok (.dup, 1) := by decide +kernel
theorem dJx4a65c_add_9ea2d_2 : decode cJx4a65c_add_9ea2d 2 = .ok (.getfield 63, 3) := by decide +kernel
theorem dJx4a65c_add_9ea2d_5 : decode cJx4a65c_add_9ea2d 5 = .ok (.iconst 1, 1) := by decide +kernel
theorem dJx4a65c_add_9ea2d_6 : decode cJx4a65c_add_9ea2d 6 = .ok (.iadd, 1) := by decide +kernel
theorem dJx4a65c_add_9ea2d_7 : decode cJx4a65c_add_9ea2d 7 = .ok (.putfield 63, 3) := by decide +kernel
theorem dJx4a65c_add_9ea2d_10 : decode cJx4a65c_add_9ea2d 10 = .ok (.aload_n 0, 1) := by decide +kernel
theorem dJx4a65c_add_9ea2d_11 : decode cJx4a65c_add_9ea2d 11 = .ok (.aload_n 1, 1) := by decide +kernel
theorem dJx4a65c_add_9ea2d_12 : decode cJx4a65c_add_9ea2d 12 = .ok (.aload_n 0, 1) := by decide +kernel
theorem dJx4a65c_add_9ea2d_13 : decode cJx4a65c_add_9ea2d 13 = .ok (.getfield 9, 3) := by decide +kernel
theorem dJx4a65c_add_9ea2d_16 : decode cJx4a65c_add_9ea2d 16 = .ok (.aload_n 0, 1) := by decide +kernel
theorem dJx4a65c_add_9ea2d_17 : decode cJx4a65c_add_9ea2d 17 = .ok (.getfield 48, 3) := by decide +kernel
theorem dJx4a65c_add_9ea2d_20 : decode cJx4a65c_add_9ea2d 20 = .ok (.invokevirtual 131, 3) := by decide +kernel
theorem dJx4a65c_add_9ea2d_23 : decode cJx4a65c_add_9ea2d 23 = .ok (.iconst 1, 1) := by decide +kernel
theorem dJx4a65c_add_9ea2d_24 : decode cJx4a65c_add_9ea2d 24 = .ok (.ireturn, 1) := by decide +kernel
theorem dJ7_rangeCheck_23922_0 : decode cJ7_rangeCheck_23922 0 = .ok (.iload_n 1, 1) := by decide +kernel
theorem dJ7_rangeCheck_23922_1 : decode cJ7_rangeCheck_23922 1 = .ok (.iload_n 2, 1) := by decide +kernel
theorem dJ7_rangeCheck_23922_2 : decode cJ7_rangeCheck_23922 2 = .ok (.if_icmp .le 44, 3) := by decide +kernel
theorem dJ7_rangeCheck_23922_5 : decode cJ7_rangeCheck_23922 5 = .ok (.new 43, 3) := by decide +kernel
theorem dJ7_rangeCheck_23922_8 : decode cJ7_rangeCheck_23922 8 = .ok (.dup, 1) := by decide +kernel
theorem dJ7_rangeCheck_23922_9 : decode cJ7_rangeCheck_23922 9 = .ok (.new 45, 3) := by decide +kernel
theorem dJ7_rangeCheck_23922_12 : decode cJ7_rangeCheck_23922 12 = .ok (.dup, 1) := by decide +kernel
theorem dJ7_rangeCheck_23922_13 : decode cJ7_rangeCheck_23922 13 = .ok (.invokespecial 47, 3) := by decide +kernel
theorem dJ7_rangeCheck_23922_16 : decode cJ7_rangeCheck_23922 16 = .ok (.ldc 48, 2) := by decide +kernel
theorem dJ7_rangeCheck_23922_18 : decode cJ7_rangeCheck_23922 18 = .ok (.invokevirtual 50, 3) := by decide +kernel
theorem dJ7_rangeCheck_23922_21 : decode cJ7_rangeCheck_23922 21 = .ok (.iload_n 1, 1) := by decide +kernel
theorem dJ7_rangeCheck_23922_22 : decode cJ7_rangeCheck_23922 22 = .ok (.invokevirtual 54, 3) := by decide +kernel
theorem dJ7_rangeCheck_23922_25 : decode cJ7_rangeCheck_23922 25 = .ok (.ldc 57, 2) := by decide +kernel
theorem dJ7_rangeCheck_23922_27 : decode cJ7_rangeCheck_23922 27 = .ok (.invokevirtual 50, 3) := by decide +kernel
theorem dJ7_rangeCheck_23922_30 : decode cJ7_rangeCheck_23922 30 = .ok (.iload_n 2, 1) := by decide +kernel
theorem dJ7_rangeCheck_23922_31 : decode cJ7_rangeCheck_23922 31 = .ok (.invokevirtual 54, 3) := by decide +kernel
theorem dJ7_rangeCheck_23922_34 : decode cJ7_rangeCheck_23922 34 = .ok (.ldc 59, 2) := by decide +kernel
theorem dJ7_rangeCheck_23922_36 : decode cJ7_rangeCheck_23922 36 = .ok (.invokevirtual 50, 3) := by decide +kernel
theorem dJ7_rangeCheck_23922_39 : decode cJ7_rangeCheck_23922 39 = .ok (.invokevirtual 61, 3) := by decide +kernel
theorem dJ7_rangeCheck_23922_42 : decode cJ7_rangeCheck_23922 42 = .ok (.invokespecial 65, 3) := by decide +kernel
theorem dJ7_rangeCheck_23922_45 : decode cJ7_rangeCheck_23922 45 = .ok (.athrow, 1) := by decide +kernel
theorem dJ7_rangeCheck_23922_46 : decode cJ7_rangeCheck_23922 46 = .ok (.iload_n 1, 1) := by decide +kernel
theorem dJ7_rangeCheck_23922_47 : decode cJ7_rangeCheck_23922 47 = .ok (.ifCond .ge 12, 3) := by decide +kernel
theorem dJ7_rangeCheck_23922_50 : decode cJ7_rangeCheck_23922 50 = .ok (.new 68, 3) := by decide +kernel
theorem dJ7_rangeCheck_23922_53 : decode cJ7_rangeCheck_23922 53 = .ok (.dup, 1) := by decide +kernel
theorem dJ7_rangeCheck_23922_54 : decode cJ7_rangeCheck_23922 54 = .ok (.iload_n 1, 1) := by decide +kernel
theorem dJ7_rangeCheck_23922_55 : decode cJ7_rangeCheck_23922 55 = .ok (.invokespecial 70, 3) := by decide +kernel
theorem dJ7_rangeCheck_23922_58 : decode cJ7_rangeCheck_23922 58 = .ok (.athrow, 1) := by decide +kernel
theorem dJ7_rangeCheck_23922_59 : decode cJ7_rangeCheck_23922 59 = .ok (.iload_n 2, 1) := by decide +kernel
theorem dJ7_rangeCheck_23922_60 : decode cJ7_rangeCheck_23922 60 = .ok (.iload_n 0, 1) := by decide +kernel
theorem dJ7_rangeCheck_23922_61 : decode cJ7_rangeCheck_23922 61 = .ok (.if_icmp .le 12, 3) := by decide +kernel
theorem dJ7_rangeCheck_23922_64 : decode cJ7_rangeCheck_23922 64 = .ok (.new 68, 3) := by decide +kernel
theorem dJ7_rangeCheck_23922_67 : decode cJ7_rangeCheck_23922 67 = .ok (.dup, 1) := by decide +kernel
theorem dJ7_rangeCheck_23922_68 : decode cJ7_rangeCheck_23922 68 = .ok (.iload_n 2, 1) := by decide +kernel
theorem dJ7_rangeCheck_23922_69 : decode cJ7_rangeCheck_23922 69 = .ok (.invokespecial 70, 3) := by decide +kernel
theorem dJ7_rangeCheck_23922_72 : decode cJ7_rangeCheck_23922 72 = .ok (.athrow, 1) := by decide +kernel
theorem dJ7_rangeCheck_23922_73 : decode cJ7_rangeCheck_23922 73 = .ok (.return_, 1) := by decide +kernel
theorem dJ7_fill_eb02e_0 : decode cJ7_fill_eb02e 0 = .ok (.aload_n 0, 1) := by decide +kernel
theorem dJ7_fill_eb02e_1 : decode cJ7_fill_eb02e 1 = .ok (.arraylength, 1) := by decide +kernel
theorem dJ7_fill_eb02e_2 : decode cJ7_fill_eb02e 2 = .ok (.iload_n 1, 1) := by decide +kernel
theorem dJ7_fill_eb02e_3 : decode cJ7_fill_eb02e 3 = .ok (.iload_n 2, 1) := by decide +kernel
theorem dJ7_fill_eb02e_4 : decode cJ7_fill_eb02e 4 = .ok (.invokestatic 13, 3) := by decide +kernel
theorem dJ7_fill_eb02e_7 : decode cJ7_fill_eb02e 7 = .ok (.iload_n 1, 1) := by decide +kernel
theorem dJ7_fill_eb02e_8 : decode cJ7_fill_eb02e 8 = .ok (.istore 4, 2) := by decide +kernel
theorem dJ7_fill_eb02e_10 : decode cJ7_fill_eb02e 10 = .ok (.iload 4, 2) := by decide +kernel
theorem dJ7_fill_eb02e_12 : decode cJ7_fill_eb02e 12 = .ok (.iload_n 2, 1) := by decide +kernel
theorem dJ7_fill_eb02e_13 : decode cJ7_fill_eb02e 13 = .ok (.if_icmp .ge 14, 3) := by decide +kernel
theorem dJ7_fill_eb02e_16 : decode cJ7_fill_eb02e 16 = .ok (.aload_n 0, 1) := by decide +kernel
theorem dJ7_fill_eb02e_17 : decode cJ7_fill_eb02e 17 = .ok (.iload 4, 2) := by decide +kernel
theorem dJ7_fill_eb02e_19 : decode cJ7_fill_eb02e 19 = .ok (.iload_n 3, 1) := by decide +kernel
theorem dJ7_fill_eb02e_20 : decode cJ7_fill_eb02e 20 = .ok (.bastore, 1) := by decide +kernel
theorem dJ7_fill_eb02e_21 : decode cJ7_fill_eb02e 21 = .ok (.iinc 4 1, 3) := by decide +kernel
theorem dJ7_fill_eb02e_24 : decode cJ7_fill_eb02e 24 = .ok (.goto (-14), 3) := by decide +kernel
theorem dJ7_fill_eb02e_27 : decode cJ7_fill_eb02e 27 = .ok (.return_, 1) := by decide +kernel
theorem dJ7_copyOf_1904c_0 : decode cJ7_copyOf_1904c 0 = .ok (.aload_n 0, 1) := by decide +kernel
theorem dJ7_copyOf_1904c_1 : decode cJ7_copyOf_1904c 1 = .ok (.iload_n 1, 1) := by decide +kernel
theorem dJ7_copyOf_1904c_2 : decode cJ7_copyOf_1904c 2 = .ok (.aload_n 0, 1) := by decide +kernel
theorem dJ7_copyOf_1904c_3 : decode cJ7_copyOf_1904c 3 = .ok (.invokevirtual 86, 3) := by decide +kernel
theorem dJ7_copyOf_1904c_6 : decode cJ7_copyOf_1904c 6 = .ok (.invokestatic 300, 3) := by decide +kernel
theorem dJ7_copyOf_1904c_9 : decode cJ7_copyOf_1904c 9 = .ok (.areturn, 1) := by decide +kernel
theorem dJ7_copyOf_6403c_0 : decode cJ7_copyOf_6403c 0 = .ok (.aload_n 2, 1) := by decide +kernel
theorem dJ7_copyOf_6403c_1 : decode cJ7_copyOf_6403c 1 = .ok (.ldc 110, 2) := by decide +kernel
theorem dJ7_copyOf_6403c_3 : decode cJ7_copyOf_6403c 3 = .ok (.if_acmp .ne 10, 3) := by decide +kernel
theorem dJ7_copyOf_6403c_6 : decode cJ7_copyOf_6403c 6 = .ok (.iload_n 1, 1) := by decide +kernel
theorem dJ7_copyOf_6403c_7 : decode cJ7_copyOf_6403c 7 = .ok (.anewarray 2, 3) := by decide +kernel
theorem dJ7_copyOf_6403c_10 : decode cJ7_copyOf_6403c 10 = .ok (.goto 14, 3) := by decide +kernel
theorem dJ7_copyOf_6403c_13 : decode cJ7_copyOf_6403c 13 = .ok (.aload_n 2, 1) := by decide +kernel
theorem dJ7_copyOf_6403c_14 : decode cJ7_copyOf_6403c 14 = .ok (.invokevirtual 90, 3) := by decide +kernel
theorem dJ7_copyOf_6403c_17 : decode cJ7_copyOf_6403c 17 = .ok (.iload_n 1, 1) := by decide +kernel
theorem dJ7_copyOf_6403c_18 : decode cJ7_copyOf_6403c 18 = .ok (.invokestatic 95, 3) := by decide +kernel
theorem dJ7_copyOf_6403c_21 : decode cJ7_copyOf_6403c 21 = .ok (.checkcast 110, 3) := by decide +kernel
theorem dJ7_copyOf_6403c_24 : decode cJ7_copyOf_6403c 24 = .ok (.astore_n 3, 1) := by decide +kernel
theorem dJ7_copyOf_6403c_25 : decode cJ7_copyOf_6403c 25 = .ok (.aload_n 0, 1) := by decide +kernel
theorem dJ7_copyOf_6403c_26 : decode cJ7_copyOf_6403c 26 = .ok (.iconst 0, 1) := by decide +kernel
theorem dJ7_copyOf_6403c_27 : decode cJ7_copyOf_6403c 27 = .ok (.aload_n 3, 1) := by decide +kernel
theorem dJ7_copyOf_6403c_28 : decode cJ7_copyOf_6403c 28 = .ok (.iconst 0, 1) := by decide +kernel
theorem dJ7_copyOf_6403c_29 : decode cJ7_copyOf_6403c 29 = .ok (.aload_n 0, 1) := by decide +kernel
theorem dJ7_copyOf_6403c_30 : decode cJ7_copyOf_6403c 30 = .ok (.arraylength, 1) := by decide +kernel
theorem dJ7_copyOf_6403c_31 : decode cJ7_copyOf_6403c 31 = .ok (.iload_n 1, 1) := by decide +kernel
theorem dJ7_copyOf_6403c_32 : decode cJ7_copyOf_6403c 32 = .ok (.invokestatic 304, 3) := by decide +kernel
theorem dJ7_copyOf_6403c_35 : decode cJ7_copyOf_6403c 35 = .ok (.invokestatic 150, 3) := by decide +kernel
theorem dJ7_copyOf_6403c_38 : decode cJ7_copyOf_6403c 38 = .ok (.aload_n 3, 1) := by decide +kernel
theorem dJ7_copyOf_6403c_39 : decode cJ7_copyOf_6403c 39 = .ok (.areturn, 1) := by decide +kernel
theorem dJ7_copyOf_9075b_0 : decode cJ7_copyOf_9075b 0 = .ok (.iload_n 1, 1) := by decide +kernel
theorem dJ7_copyOf_9075b_1 : decode cJ7_copyOf_9075b 1 = .ok (.aload_n 0, 1) := by decide +kernel
theorem dJ7_copyOf_9075b_2 : decode cJ7_copyOf_9075b 2 = .ok (.arraylength, 1) := by decide +kernel
theorem dJ7_copyOf_9075b_3 : decode cJ7_copyOf_9075b 3 = .ok (.if_icmp .ne 11, 3) := by decide +kernel
theorem dJ7_copyOf_9075b_6 : decode cJ7_copyOf_9075b 6 = .ok (.aload_n 0, 1) := by decide +kernel
theorem dJ7_copyOf_9075b_7 : decode cJ7_copyOf_9075b 7 = .ok (.invokevirtual 310, 3) := by decide +kernel
theorem dJ7_copyOf_9075b_10 : decode cJ7_copyOf_9075b 10 = .ok (.checkcast 311, 3) := by decide +kernel
theorem dJ7_copyOf_9075b_13 : decode cJ7_copyOf_9075b 13 = .ok (.areturn, 1) := by decide +kernel
theorem dJ7_copyOf_9075b_14 : decode cJ7_copyOf_9075b 14 = .ok (.iload_n 1, 1) := by decide +kernel
theorem dJ7_copyOf_9075b_15 : decode cJ7_copyOf_9075b 15 = .ok (.newarray .byte, 2) := by decide +kernel
theorem dJ7_copyOf_9075b_17 : decode cJ7_copyOf_9075b 17 = .ok (.astore_n 2, 1) := by decide +kernel
theorem dJ7_copyOf_9075b_18 : decode cJ7_copyOf_9075b 18 = .ok (.aload_n 0, 1) := by decide +kernel
theorem dJ7_copyOf_9075b_19 : decode cJ7_copyOf_9075b 19 = .ok (.iconst 0, 1) := by decide +kernel
theorem dJ7_copyOf_9075b_20 : decode cJ7_copyOf_9075b 20 = .ok (.aload_n 2, 1) := by decide +kernel
theorem dJ7_copyOf_9075b_21 : decode cJ7_copyOf_9075b 21 = .ok (.iconst 0, 1) := by decide +kernel
theorem dJ7_copyOf_9075b_22 : decode cJ7_copyOf_9075b 22 = .ok (.aload_n 0, 1) := by decide +kernel
theorem dJ7_copyOf_9075b_23 : decode cJ7_copyOf_9075b 23 = .ok (.arraylength, 1) := by decide +kernel
theorem dJ7_copyOf_9075b_24 : decode cJ7_copyOf_9075b 24 = .ok (.iload_n 1, 1) := by decide +kernel
theorem dJ7_copyOf_9075b_25 : decode cJ7_copyOf_9075b 25 = .ok (.invokestatic 304, 3) := by decide +kernel
theorem dJ7_copyOf_9075b_28 : decode cJ7_copyOf_9075b 28 = .ok (.invokestatic 150, 3) := by decide +kernel
theorem dJ7_copyOf_9075b_31 : decode cJ7_copyOf_9075b 31 = .ok (.aload_n 2, 1) := by decide +kernel
theorem dJ7_copyOf_9075b_32 : decode cJ7_copyOf_9075b 32 = .ok (.areturn, 1) := by decide +kernel
theorem dJ7_checkLength_df160_0 : decode cJ7_checkLength_df160 0 = .ok (.iload_n 1, 1) := by decide +kernel
theorem dJ7_checkLength_df160_1 : decode cJ7_checkLength_df160 1 = .ok (.iload_n 0, 1) := by decide +kernel
theorem dJ7_checkLength_df160_2 : decode cJ7_checkLength_df160 2 = .ok (.if_icmp .ge 35, 3) := by decide +kernel
theorem dJ7_checkLength_df160_5 : decode cJ7_checkLength_df160 5 = .ok (.new 43, 3) := by decide +kernel
theorem dJ7_checkLength_df160_8 : decode cJ7_checkLength_df160 8 = .ok (.dup, 1) := by decide +kernel
theorem dJ7_checkLength_df160_9 : decode cJ7_checkLength_df160 9 = .ok (.new 45, 3) := by decide +kernel
theorem dJ7_checkLength_df160_12 : decode cJ7_checkLength_df160 12 = .ok (.dup, 1) := by decide +kernel
theorem dJ7_checkLength_df160_13 : decode cJ7_checkLength_df160 13 = .ok (.invokespecial 47, 3) := by decide +kernel
theorem dJ7_checkLength_df160_16 : decode cJ7_checkLength_df160 16 = .ok (.iload_n 0, 1) := by decide +kernel
theorem dJ7_checkLength_df160_17 : decode cJ7_checkLength_df160 17 = .ok (.invokevirtual 54, 3) := by decide +kernel
theorem dJ7_checkLength_df160_20 : decode cJ7_checkLength_df160 20 = .ok (.ldc_w 337, 3) := by decide +kernel
theorem dJ7_checkLength_df160_23 : decode cJ7_checkLength_df160 23 = .ok (.invokevirtual 50, 3) := by decide +kernel
theorem dJ7_checkLength_df160_26 : decode cJ7_checkLength_df160 26 = .ok (.iload_n 1, 1) := by decide +kernel
theorem dJ7_checkLength_df160_27 : decode cJ7_checkLength_df160 27 = .ok (.invokevirtual 54, 3) := by decide +kernel
theorem dJ7_checkLength_df160_30 : decode cJ7_checkLength_df160 30 = .ok (.invokevirtual 61, 3) := by decide +kernel
theorem dJ7_checkLength_df160_33 : decode cJ7_checkLength_df160 33 = .ok (.invokespecial 65, 3) := by decide +kernel
theorem dJ7_checkLength_df160_36 : decode cJ7_checkLength_df160 36 = .ok (.athrow, 1) := by decide +kernel
theorem dJ7_checkLength_df160_37 : decode cJ7_checkLength_df160 37 = .ok (.return_, 1) := by decide +kernel
theorem dJ7_copyOfRange_39247_0 : decode cJ7_copyOfRange_39247 0 = .ok (.iload_n 1, 1) := by decide +kernel
theorem dJ7_copyOfRange_39247_1 : decode cJ7_copyOfRange_39247 1 = .ok (.ifCond .ne 9, 3) := by decide +kernel
theorem dJ7_copyOfRange_39247_4 : decode cJ7_copyOfRange_39247 4 = .ok (.iload_n 2, 1) := by decide +kernel
theorem dJ7_copyOfRange_39247_5 : decode cJ7_copyOfRange_39247 5 = .ok (.aload_n 0, 1) := by decide +kernel
theorem dJ7_copyOfRange_39247_6 : decode cJ7_copyOfRange_39247 6 = .ok (.arraylength, 1) := by decide +kernel
theorem dJ7_copyOfRange_39247_7 : decode cJ7_copyOfRange_39247 7 = .ok (.if_icmp .eq 10, 3) := by decide +kernel
theorem dJ7_copyOfRange_39247_10 : decode cJ7_copyOfRange_39247 10 = .ok (.aload_n 0, 1) := by decide +kernel
theorem dJ7_copyOfRange_39247_11 : decode cJ7_copyOfRange_39247 11 = .ok (.iload_n 1, 1) := by decide +kernel
theorem dJ7_copyOfRange_39247_12 : decode cJ7_copyOfRange_39247 12 = .ok (.iload_n 2, 1) := by decide +kernel
theorem dJ7_copyOfRange_39247_13 : decode cJ7_copyOfRange_39247 13 = .ok (.invokestatic 339, 3) := by decide +kernel
theorem dJ7_copyOfRange_39247_16 : decode cJ7_copyOfRange_39247 16 = .ok (.areturn, 1) := by decide +kernel
theorem dJ7_copyOfRange_39247_17 : decode cJ7_copyOfRange_39247 17 = .ok (.aload_n 0, 1) := by decide +kernel
theorem dJ7_copyOfRange_39247_18 : decode cJ7_copyOfRange_39247 18 = .ok (.invokevirtual 310, 3) := by decide +kernel
theorem dJ7_copyOfRange_39247_21 : decode cJ7_copyOfRange_39247 21 = .ok (.checkcast 311, 3) := by decide +kernel
theorem dJ7_copyOfRange_39247_24 : decode cJ7_copyOfRange_39247 24 = .ok (.areturn, 1) := by decide +kernel
theorem dJ7_copyOfRangeByte_39247_0 : decode cJ7_copyOfRangeByte_39247 0 = .ok (.iload_n 1, 1) := by decide +kernel
theorem dJ7_copyOfRangeByte_39247_1 : decode cJ7_copyOfRangeByte_39247 1 = .ok (.iload_n 2, 1) := by decide +kernel
theorem dJ7_copyOfRangeByte_39247_2 : decode cJ7_copyOfRangeByte_39247 2 = .ok (.invokestatic 343, 3) := by decide +kernel
theorem dJ7_copyOfRangeByte_39247_5 : decode cJ7_copyOfRangeByte_39247 5 = .ok (.iload_n 2, 1) := by decide +kernel
theorem dJ7_copyOfRangeByte_39247_6 : decode cJ7_copyOfRangeByte_39247 6 = .ok (.iload_n 1, 1) := by decide +kernel
theorem dJ7_copyOfRangeByte_39247_7 : decode cJ7_copyOfRangeByte_39247 7 = .ok (.isub, 1) := by decide +kernel
theorem dJ7_copyOfRangeByte_39247_8 : decode cJ7_copyOfRangeByte_39247 8 = .ok (.istore_n 3, 1) := by decide +kernel
theorem dJ7_copyOfRangeByte_39247_9 : decode cJ7_copyOfRangeByte_39247 9 = .ok (.iload_n 3, 1) := by decide +kernel
theorem dJ7_copyOfRangeByte_39247_10 : decode cJ7_copyOfRangeByte_39247 10 = .ok (.newarray .byte, 2) := by decide +kernel
theorem dJ7_copyOfRangeByte_39247_12 : decode cJ7_copyOfRangeByte_39247 12 = .ok (.astore 4, 2) := by decide +kernel
theorem dJ7_copyOfRangeByte_39247_14 : decode cJ7_copyOfRangeByte_39247 14 = .ok (.aload_n 0, 1) := by decide +kernel
theorem dJ7_copyOfRangeByte_39247_15 : decode cJ7_copyOfRangeByte_39247 15 = .ok (.iload_n 1, 1) := by decide +kernel
theorem dJ7_copyOfRangeByte_39247_16 : decode cJ7_copyOfRangeByte_39247 16 = .ok (.aload 4, 2) := by decide +kernel
theorem dJ7_copyOfRangeByte_39247_18 : decode cJ7_copyOfRangeByte_39247 18 = .ok (.iconst 0, 1) := by decide +kernel
theorem dJ7_copyOfRangeByte_39247_19 : decode cJ7_copyOfRangeByte_39247 19 = .ok (.aload_n 0, 1) := by decide +kernel
theorem dJ7_copyOfRangeByte_39247_20 : decode cJ7_copyOfRangeByte_39247 20 = .ok (.arraylength, 1) := by decide +kernel
theorem dJ7_copyOfRangeByte_39247_21 : decode cJ7_copyOfRangeByte_39247 21 = .ok (.iload_n 1, 1) := by decide +kernel
theorem dJ7_copyOfRangeByte_39247_22 : decode cJ7_copyOfRangeByte_39247 22 = .ok (.isub, 1) := by decide +kernel
theorem dJ7_copyOfRangeByte_39247_23 : decode cJ7_copyOfRangeByte_39247 23 = .ok (.iload_n 3, 1) := by decide +kernel
theorem dJ7_copyOfRangeByte_39247_24 : decode cJ7_copyOfRangeByte_39247 24 = .ok (.invokestatic 304, 3) := by decide +kernel
theorem dJ7_copyOfRangeByte_39247_27 : decode cJ7_copyOfRangeByte_39247 27 = .ok (.invokestatic 150, 3) := by decide +kernel
theorem dJ7_copyOfRangeByte_39247_30 : decode cJ7_copyOfRangeByte_39247 30 = .ok (.aload 4, 2) := by decide +kernel
theorem dJ7_copyOfRangeByte_39247_32 : decode cJ7_copyOfRangeByte_39247 32 = .ok (.areturn, 1) := by decide +kernel
theorem dJ15_checkIndex_7cf53_0 : decode cJ15_checkIndex_7cf53 0 = .ok (.iload_n 0, 1) := by decide +kernel
theorem dJ15_checkIndex_7cf53_1 : decode cJ15_checkIndex_7cf53 1 = .ok (.iload_n 1, 1) := by decide +kernel
theorem dJ15_checkIndex_7cf53_2 : decode cJ15_checkIndex_7cf53 2 = .ok (.aconst_null, 1) := by decide +kernel
theorem dJ15_checkIndex_7cf53_3 : decode cJ15_checkIndex_7cf53 3 = .ok (.invokestatic 105, 3) := by decide +kernel
theorem dJ15_checkIndex_7cf53_6 : decode cJ15_checkIndex_7cf53 6 = .ok (.ireturn, 1) := by decide +kernel
theorem dJ8_newLength_cabcc_0 : decode cJ8_newLength_cabcc 0 = .ok (.iload_n 0, 1) := by decide +kernel
theorem dJ8_newLength_cabcc_1 : decode cJ8_newLength_cabcc 1 = .ok (.iload_n 1, 1) := by decide +kernel
theorem dJ8_newLength_cabcc_2 : decode cJ8_newLength_cabcc 2 = .ok (.iload_n 2, 1) := by decide +kernel
theorem dJ8_newLength_cabcc_3 : decode cJ8_newLength_cabcc 3 = .ok (.invokestatic 194, 3) := by decide +kernel
theorem dJ8_newLength_cabcc_6 : decode cJ8_newLength_cabcc 6 = .ok (.iadd, 1) := by decide +kernel
theorem dJ8_newLength_cabcc_7 : decode cJ8_newLength_cabcc 7 = .ok (.istore_n 3, 1) := by decide +kernel
theorem dJ8_newLength_cabcc_8 : decode cJ8_newLength_cabcc 8 = .ok (.iconst 0, 1) := by decide +kernel
theorem dJ8_newLength_cabcc_9 : decode cJ8_newLength_cabcc 9 = .ok (.iload_n 3, 1) := by decide +kernel
theorem dJ8_newLength_cabcc_10 : decode cJ8_newLength_cabcc 10 = .ok (.if_icmp .ge 11, 3) := by decide +kernel
theorem dJ8_newLength_cabcc_13 : decode cJ8_newLength_cabcc 13 = .ok (.iload_n 3, 1) := by decide +kernel
theorem dJ8_newLength_cabcc_14 : decode cJ8_newLength_cabcc 14 = .ok (.ldc 200, 2) := by decide +kernel
theorem dJ8_newLength_cabcc_16 : decode cJ8_newLength_cabcc 16 = .ok (.if_icmp .gt 5, 3) := by decide +kernel
theorem dJ8_newLength_cabcc_19 : decode cJ8_newLength_cabcc 19 = .ok (.iload_n 3, 1) := by decide +kernel
theorem dJ8_newLength_cabcc_20 : decode cJ8_newLength_cabcc 20 = .ok (.ireturn, 1) := by decide +kernel
theorem dJ8_newLength_cabcc_21 : decode cJ8_newLength_cabcc 21 = .ok (.iload_n 0, 1) := by decide +kernel
theorem dJ8_newLength_cabcc_22 : decode cJ8_newLength_cabcc 22 = .ok (.iload_n 1, 1) := by decide +kernel
theorem dJ8_newLength_cabcc_23 : decode cJ8_newLength_cabcc 23 = .ok (.invokestatic 201, 3) := by decide +kernel
theorem dJ8_newLength_cabcc_26 : decode cJ8_newLength_cabcc 26 = .ok (.ireturn, 1) := by decide +kernel
theorem dJ8_hugeLength_7cf53_0 : decode cJ8_hugeLength_7cf53 0 = .ok (.iload_n 0, 1) := by decide +kernel
theorem dJ8_hugeLength_7cf53_1 : decode cJ8_hugeLength_7cf53 1 = .ok (.iload_n 1, 1) := by decide +kernel
theorem dJ8_hugeLength_7cf53_2 : decode cJ8_hugeLength_7cf53 2 = .ok (.iadd, 1) := by decide +kernel
theorem dJ8_hugeLength_7cf53_3 : decode cJ8_hugeLength_7cf53 3 = .ok (.istore_n 2, 1) := by decide +kernel
theorem dJ8_hugeLength_7cf53_4 : decode cJ8_hugeLength_7cf53 4 = .ok (.iload_n 2, 1) := by decide +kernel
theorem dJ8_hugeLength_7cf53_5 : decode cJ8_hugeLength_7cf53 5 = .ok (.ifCond .ge 44, 3) := by decide +kernel
theorem dJ8_hugeLength_7cf53_8 : decode cJ8_hugeLength_7cf53 8 = .ok (.new 204, 3) := by decide +kernel
theorem dJ8_hugeLength_7cf53_11 : decode cJ8_hugeLength_7cf53 11 = .ok (.dup, 1) := by decide +kernel
theorem dJ8_hugeLength_7cf53_12 : decode cJ8_hugeLength_7cf53 12 = .ok (.new 89, 3) := by decide +kernel
theorem dJ8_hugeLength_7cf53_15 : decode cJ8_hugeLength_7cf53 15 = .ok (.dup, 1) := by decide +kernel
theorem dJ8_hugeLength_7cf53_16 : decode cJ8_hugeLength_7cf53 16 = .ok (.invokespecial 91, 3) := by decide +kernel
theorem dJ8_hugeLength_7cf53_19 : decode cJ8_hugeLength_7cf53 19 = .ok (.ldc 206, 2) := by decide +kernel
theorem dJ8_hugeLength_7cf53_21 : decode cJ8_hugeLength_7cf53 21 = .ok (.invokevirtual 94, 3) := by decide +kernel
theorem dJ8_hugeLength_7cf53_24 : decode cJ8_hugeLength_7cf53 24 = .ok (.iload_n 0, 1) := by decide +kernel
theorem dJ8_hugeLength_7cf53_25 : decode cJ8_hugeLength_7cf53 25 = .ok (.invokevirtual 98, 3) := by decide +kernel
theorem dJ8_hugeLength_7cf53_28 : decode cJ8_hugeLength_7cf53 28 = .ok (.ldc 208, 2) := by decide +kernel
theorem dJ8_hugeLength_7cf53_30 : decode cJ8_hugeLength_7cf53 30 = .ok (.invokevirtual 94, 3) := by decide +kernel
theorem dJ8_hugeLength_7cf53_33 : decode cJ8_hugeLength_7cf53 33 = .ok (.iload_n 1, 1) := by decide +kernel
theorem dJ8_hugeLength_7cf53_34 : decode cJ8_hugeLength_7cf53 34 = .ok (.invokevirtual 98, 3) := by decide +kernel
theorem dJ8_hugeLength_7cf53_37 : decode cJ8_hugeLength_7cf53 37 = .ok (.ldc 210, 2) := by decide +kernel
theorem dJ8_hugeLength_7cf53_39 : decode cJ8_hugeLength_7cf53 39 = .ok (.invokevirtual 94, 3) := by decide +kernel
theorem dJ8_hugeLength_7cf53_42 : decode cJ8_hugeLength_7cf53 42 = .ok (.invokevirtual 101, 3) := by decide +kernel
theorem dJ8_hugeLength_7cf53_45 : decode cJ8_hugeLength_7cf53 45 = .ok (.invokespecial 212, 3) := by decide +kernel
theorem dJ8_hugeLength_7cf53_48 : decode cJ8_hugeLength_7cf53 48 = .ok (.athrow, 1) := by decide +kernel
theorem dJ8_hugeLength_7cf53_49 : decode cJ8_hugeLength_7cf53 49 = .ok (.iload_n 2, 1) := by decide +kernel
theorem dJ8_hugeLength_7cf53_50 : decode cJ8_hugeLength_7cf53 50 = .ok (.ldc 200, 2) := by decide +kernel
theorem dJ8_hugeLength_7cf53_52 : decode cJ8_hugeLength_7cf53 52 = .ok (.if_icmp .gt 6, 3) := by decide +kernel
theorem dJ8_hugeLength_7cf53_55 : decode cJ8_hugeLength_7cf53 55 = .ok (.ldc 200, 2) := by decide +kernel
theorem dJ8_hugeLength_7cf53_57 : decode cJ8_hugeLength_7cf53 57 = .ok (.ireturn, 1) := by decide +kernel
theorem dJ8_hugeLength_7cf53_58 : decode cJ8_hugeLength_7cf53 58 = .ok (.iload_n 2, 1) := by decide +kernel
theorem dJ8_hugeLength_7cf53_59 : decode cJ8_hugeLength_7cf53 59 = .ok (.ireturn, 1) := by decide +kernel
theorem dJ3_checkIndex_8e157_0 : decode cJ3_checkIndex_8e157 0 = .ok (.iload_n 0, 1) := by decide +kernel
theorem dJ3_checkIndex_8e157_1 : decode cJ3_checkIndex_8e157 1 = .ok (.ifCond .lt 8, 3) := by decide +kernel
theorem dJ3_checkIndex_8e157_4 : decode cJ3_checkIndex_8e157 4 = .ok (.iload_n 0, 1) := by decide +kernel
theorem dJ3_checkIndex_8e157_5 : decode cJ3_checkIndex_8e157 5 = .ok (.iload_n 1, 1) := by decide +kernel
theorem dJ3_checkIndex_8e157_6 : decode cJ3_checkIndex_8e157 6 = .ok (.if_icmp .lt 10, 3) := by decide +kernel
theorem dJ3_checkIndex_8e157_9 : decode cJ3_checkIndex_8e157 9 = .ok (.aload_n 2, 1) := by decide +kernel
theorem dJ3_checkIndex_8e157_10 : decode cJ3_checkIndex_8e157 10 = .ok (.iload_n 0, 1) := by decide +kernel
theorem dJ3_checkIndex_8e157_11 : decode cJ3_checkIndex_8e157 11 = .ok (.iload_n 1, 1) := by decide +kernel
theorem dJ3_checkIndex_8e157_12 : decode cJ3_checkIndex_8e157 12 = .ok (.invokestatic 95, 3) := by decide +kernel
theorem dJ3_checkIndex_8e157_15 : decode cJ3_checkIndex_8e157 15 = .ok (.athrow, 1) := by decide +kernel
theorem dJ3_checkIndex_8e157_16 : decode cJ3_checkIndex_8e157 16 = .ok (.iload_n 0, 1) := by decide +kernel
theorem dJ3_checkIndex_8e157_17 : decode cJ3_checkIndex_8e157 17 = .ok (.ireturn, 1) := by decide +kernel
theorem dJ3_checkFromToIndex_8c36e_0 : decode cJ3_checkFromToIndex_8c36e 0 = .ok (.iload_n 0, 1) := by decide +kernel
theorem dJ3_checkFromToIndex_8c36e_1 : decode cJ3_checkFromToIndex_8c36e 1 = .ok (.ifCond .lt 13, 3) := by decide +kernel
theorem dJ3_checkFromToIndex_8c36e_4 : decode cJ3_checkFromToIndex_8c36e 4 = .ok (.iload_n 0, 1) := by decide +kernel
theorem dJ3_checkFromToIndex_8c36e_5 : decode cJ3_checkFromToIndex_8c36e 5 = .ok (.iload_n 1, 1) := by decide +kernel
theorem dJ3_checkFromToIndex_8c36e_6 : decode cJ3_checkFromToIndex_8c36e 6 = .ok (.if_icmp .gt 8, 3) := by decide +kernel
theorem dJ3_checkFromToIndex_8c36e_9 : decode cJ3_checkFromToIndex_8c36e 9 = .ok (.iload_n 1, 1) := by decide +kernel
theorem dJ3_checkFromToIndex_8c36e_10 : decode cJ3_checkFromToIndex_8c36e 10 = .ok (.iload_n 2, 1) := by decide +kernel
theorem dJ3_checkFromToIndex_8c36e_11 : decode cJ3_checkFromToIndex_8c36e 11 = .ok (.if_icmp .le 11, 3) := by decide +kernel
theorem dJ3_checkFromToIndex_8c36e_14 : decode cJ3_checkFromToIndex_8c36e 14 = .ok (.aload_n 3, 1) := by decide +kernel
theorem dJ3_checkFromToIndex_8c36e_15 : decode cJ3_checkFromToIndex_8c36e 15 = .ok (.iload_n 0, 1) := by decide +kernel
theorem dJ3_checkFromToIndex_8c36e_16 : decode cJ3_checkFromToIndex_8c36e 16 = .ok (.iload_n 1, 1) := by decide +kernel
theorem dJ3_checkFromToIndex_8c36e_17 : decode cJ3_checkFromToIndex_8c36e 17 = .ok (.iload_n 2, 1) := by decide +kernel
theorem dJ3_checkFromToIndex_8c36e_18 : decode cJ3_checkFromToIndex_8c36e 18 = .ok (.invokestatic 99, 3) := by decide +kernel
theorem dJ3_checkFromToIndex_8c36e_21 : decode cJ3_checkFromToIndex_8c36e 21 = .ok (.athrow, 1) := by decide +kernel
theorem dJ3_checkFromToIndex_8c36e_22 : decode cJ3_checkFromToIndex_8c36e 22 = .ok (.iload_n 0, 1) := by decide +kernel
theorem dJ3_checkFromToIndex_8c36e_23 : decode cJ3_checkFromToIndex_8c36e 23 = .ok (.ireturn, 1) := by decide +kernel
theorem dJ3_checkFromIndexSize_8c36e_0 : decode cJ3_checkFromIndexSize_8c36e 0 = .ok (.iload_n 2, 1) := by decide +kernel
theorem dJ3_checkFromIndexSize_8c36e_1 : decode cJ3_checkFromIndexSize_8c36e 1 = .ok (.iload_n 0, 1) := by decide +kernel
theorem dJ3_checkFromIndexSize_8c36e_2 : decode cJ3_checkFromIndexSize_8c36e 2 = .ok (.ior, 1) := by decide +kernel
theorem dJ3_checkFromIndexSize_8c36e_3 : decode cJ3_checkFromIndexSize_8c36e 3 = .ok (.iload_n 1, 1) := by decide +kernel
theorem dJ3_checkFromIndexSize_8c36e_4 : decode cJ3_checkFromIndexSize_8c36e 4 = .ok (.ior, 1) := by decide +kernel
theorem dJ3_checkFromIndexSize_8c36e_5 : decode cJ3_checkFromIndexSize_8c36e 5 = .ok (.ifCond .lt 10, 3) := by decide +kernel
theorem dJ3_checkFromIndexSize_8c36e_8 : decode cJ3_checkFromIndexSize_8c36e 8 = .ok (.iload_n 1, 1) := by decide +kernel
theorem dJ3_checkFromIndexSize_8c36e_9 : decode cJ3_checkFromIndexSize_8c36e 9 = .ok (.iload_n 2, 1) := by decide +kernel
theorem dJ3_checkFromIndexSize_8c36e_10 : decode cJ3_checkFromIndexSize_8c36e 10 = .ok (.iload_n 0, 1) := by decide +kernel
theorem dJ3_checkFromIndexSize_8c36e_11 : decode cJ3_checkFromIndexSize_8c36e 11 = .ok (.isub, 1) := by decide +kernel
theorem dJ3_checkFromIndexSize_8c36e_12 : decode cJ3_checkFromIndexSize_8c36e 12 = .ok (.if_icmp .le 11, 3) := by decide +kernel
theorem dJ3_checkFromIndexSize_8c36e_15 : decode cJ3_checkFromIndexSize_8c36e 15 = .ok (.aload_n 3, 1) := by decide +kernel
theorem dJ3_checkFromIndexSize_8c36e_16 : decode cJ3_checkFromIndexSize_8c36e 16 = .ok (.iload_n 0, 1) := by decide +kernel
theorem dJ3_checkFromIndexSize_8c36e_17 : decode cJ3_checkFromIndexSize_8c36e 17 = .ok (.iload_n 1, 1) := by decide +kernel
theorem dJ3_checkFromIndexSize_8c36e_18 : decode cJ3_checkFromIndexSize_8c36e 18 = .ok (.iload_n 2, 1) := by decide +kernel
theorem dJ3_checkFromIndexSize_8c36e_19 : decode cJ3_checkFromIndexSize_8c36e 19 = .ok (.invokestatic 103, 3) := by decide +kernel
theorem dJ3_checkFromIndexSize_8c36e_22 : decode cJ3_checkFromIndexSize_8c36e 22 = .ok (.athrow, 1) := by decide +kernel
theorem dJ3_checkFromIndexSize_8c36e_23 : decode cJ3_checkFromIndexSize_8c36e 23 = .ok (.iload_n 0, 1) := by decide +kernel
theorem dJ3_checkFromIndexSize_8c36e_24 : decode cJ3_checkFromIndexSize_8c36e 24 = .ok (.ireturn, 1) := by decide +kernel
theorem dL_fold_0 : decode cL_fold 0 = .ok (.aload 4, 2) := by decide +kernel
theorem dL_fold_2 : decode cL_fold 2 = .ok (.iconst 0, 1) := by decide +kernel
theorem dL_fold_3 : decode cL_fold 3 = .ok (.aload_n 0, 1) := by decide +kernel
theorem dL_fold_4 : decode cL_fold 4 = .ok (.iload_n 1, 1) := by decide +kernel
theorem dL_fold_5 : decode cL_fold 5 = .ok (.iload_n 2, 1) := by decide +kernel
theorem dL_fold_6 : decode cL_fold 6 = .ok (.iload_n 3, 1) := by decide +kernel
theorem dL_fold_7 : decode cL_fold 7 = .ok (.invokevirtual 7, 3) := by decide +kernel
theorem dL_fold_10 : decode cL_fold 10 = .ok (.i2l, 1) := by decide +kernel
theorem dL_fold_11 : decode cL_fold 11 = .ok (.lastore, 1) := by decide +kernel
theorem dL_fold_12 : decode cL_fold 12 = .ok (.goto 15, 3) := by decide +kernel
theorem dL_fold_15 : decode cL_fold 15 = .ok (.astore 5, 2) := by decide +kernel
theorem dL_fold_17 : decode cL_fold 17 = .ok (.iconst 1, 1) := by decide +kernel
theorem dL_fold_18 : decode cL_fold 18 = .ok (.ireturn, 1) := by decide +kernel
theorem dL_fold_19 : decode cL_fold 19 = .ok (.astore 5, 2) := by decide +kernel
theorem dL_fold_21 : decode cL_fold 21 = .ok (.iconst 2, 1) := by decide +kernel
theorem dL_fold_22 : decode cL_fold 22 = .ok (.ireturn, 1) := by decide +kernel
theorem dL_fold_23 : decode cL_fold 23 = .ok (.astore 5, 2) := by decide +kernel
theorem dL_fold_25 : decode cL_fold 25 = .ok (.iconst 3, 1) := by decide +kernel
theorem dL_fold_26 : decode cL_fold 26 = .ok (.ireturn, 1) := by decide +kernel
theorem dL_fold_27 : decode cL_fold 27 = .ok (.iconst 0, 1) := by decide +kernel
theorem dL_fold_28 : decode cL_fold 28 = .ok (.ireturn, 1) := by decide +kernel
theorem dL_part_0 : decode cL_part 0 = .ok (.aload 7, 2) := by decide +kernel
theorem dL_part_2 : decode cL_part 2 = .ok (.iconst 0, 1) := by decide +kernel
theorem dL_part_3 : decode cL_part 3 = .ok (.aload_n 0, 1) := by decide +kernel
theorem dL_part_4 : decode cL_part 4 = .ok (.iload_n 1, 1) := by decide +kernel
theorem dL_part_5 : decode cL_part 5 = .ok (.iload_n 2, 1) := by decide +kernel
theorem dL_part_6 : decode cL_part 6 = .ok (.iload_n 3, 1) := by decide +kernel
theorem dL_part_7 : decode cL_part 7 = .ok (.iload 4, 2) := by decide +kernel
theorem dL_part_9 : decode cL_part 9 = .ok (.iload 5, 2) := by decide +kernel
theorem dL_part_11 : decode cL_part 11 = .ok (.iload 6, 2) := by decide +kernel
theorem dL_part_13 : decode cL_part 13 = .ok (.invokevirtual 19, 3) := by decide +kernel
theorem dL_part_16 : decode cL_part 16 = .ok (.i2l, 1) := by decide +kernel
theorem dL_part_17 : decode cL_part 17 = .ok (.lastore, 1) := by decide +kernel
theorem dL_part_18 : decode cL_part 18 = .ok (.goto 15, 3) := by decide +kernel
theorem dL_part_21 : decode cL_part 21 = .ok (.astore 8, 2) := by decide +kernel
theorem dL_part_23 : decode cL_part 23 = .ok (.iconst 1, 1) := by decide +kernel
theorem dL_part_24 : decode cL_part 24 = .ok (.ireturn, 1) := by decide +kernel
theorem dL_part_25 : decode cL_part 25 = .ok (.astore 8, 2) := by decide +kernel
theorem dL_part_27 : decode cL_part 27 = .ok (.iconst 2, 1) := by decide +kernel
theorem dL_part_28 : decode cL_part 28 = .ok (.ireturn, 1) := by decide +kernel
theorem dL_part_29 : decode cL_part 29 = .ok (.astore 8, 2) := by decide +kernel
theorem dL_part_31 : decode cL_part 31 = .ok (.iconst 3, 1) := by decide +kernel
theorem dL_part_32 : decode cL_part 32 = .ok (.ireturn, 1) := by decide +kernel
theorem dL_part_33 : decode cL_part 33 = .ok (.iconst 0, 1) := by decide +kernel
theorem dL_part_34 : decode cL_part 34 = .ok (.ireturn, 1) := by decide +kernel
theorem dL_angle_0 : decode cL_angle 0 = .ok (.aload_n 3, 1) := by decide +kernel
theorem dL_angle_1 : decode cL_angle 1 = .ok (.iconst 0, 1) := by decide +kernel
theorem dL_angle_2 : decode cL_angle 2 = .ok (.aload_n 0, 1) := by decide +kernel
theorem dL_angle_3 : decode cL_angle 3 = .ok (.iload_n 1, 1) := by decide +kernel
theorem dL_angle_4 : decode cL_angle 4 = .ok (.iload_n 2, 1) := by decide +kernel
theorem dL_angle_5 : decode cL_angle 5 = .ok (.invokevirtual 23, 3) := by decide +kernel
theorem dL_angle_8 : decode cL_angle 8 = .ok (.i2l, 1) := by decide +kernel
theorem dL_angle_9 : decode cL_angle 9 = .ok (.lastore, 1) := by decide +kernel
theorem dL_angle_10 : decode cL_angle 10 = .ok (.goto 11, 3) := by decide +kernel
theorem dL_angle_13 : decode cL_angle 13 = .ok (.astore 4, 2) := by decide +kernel
theorem dL_angle_15 : decode cL_angle 15 = .ok (.iconst 1, 1) := by decide +kernel
theorem dL_angle_16 : decode cL_angle 16 = .ok (.ireturn, 1) := by decide +kernel
theorem dL_angle_17 : decode cL_angle 17 = .ok (.astore 4, 2) := by decide +kernel
theorem dL_angle_19 : decode cL_angle 19 = .ok (.iconst 2, 1) := by decide +kernel
theorem dL_angle_20 : decode cL_angle 20 = .ok (.ireturn, 1) := by decide +kernel
theorem dL_angle_21 : decode cL_angle 21 = .ok (.iconst 0, 1) := by decide +kernel
theorem dL_angle_22 : decode cL_angle 22 = .ok (.ireturn, 1) := by decide +kernel
theorem dL_angleAnew_0 : decode cL_angleAnew 0 = .ok (.aload_n 3, 1) := by decide +kernel
theorem dL_angleAnew_1 : decode cL_angleAnew 1 = .ok (.iconst 0, 1) := by decide +kernel
theorem dL_angleAnew_2 : decode cL_angleAnew 2 = .ok (.aload_n 0, 1) := by decide +kernel
theorem dL_angleAnew_3 : decode cL_angleAnew 3 = .ok (.iload_n 1, 1) := by decide +kernel
theorem dL_angleAnew_4 : decode cL_angleAnew 4 = .ok (.iload_n 2, 1) := by decide +kernel
theorem dL_angleAnew_5 : decode cL_angleAnew 5 = .ok (.invokevirtual 27, 3) := by decide +kernel
theorem dL_angleAnew_8 : decode cL_angleAnew 8 = .ok (.i2l, 1) := by decide +kernel
theorem dL_angleAnew_9 : decode cL_angleAnew 9 = .ok (.lastore, 1) := by decide +kernel
theorem dL_angleAnew_10 : decode cL_angleAnew 10 = .ok (.goto 11, 3) := by decide +kernel
theorem dL_angleAnew_13 : decode cL_angleAnew 13 = .ok (.astore 4, 2) := by decide +kernel
theorem dL_angleAnew_15 : decode cL_angleAnew 15 = .ok (.iconst 1, 1) := by decide +kernel
theorem dL_angleAnew_16 : decode cL_angleAnew 16 = .ok (.ireturn, 1) := by decide +kernel
theorem dL_angleAnew_17 : decode cL_angleAnew 17 = .ok (.astore 4, 2) := by decide +kernel
theorem dL_angleAnew_19 : decode cL_angleAnew 19 = .ok (.iconst 2, 1) := by decide +kernel
theorem dL_angleAnew_20 : decode cL_angleAnew 20 = .ok (.ireturn, 1) := by decide +kernel
theorem dL_angleAnew_21 : decode cL_angleAnew 21 = .ok (.iconst 0, 1) := by decide +kernel
theorem dL_angleAnew_22 : decode cL_angleAnew 22 = .ok (.ireturn, 1) := by decide +kernel
theorem dL_where_0 : decode cL_where 0 = .ok (.aload 4, 2) := by decide +kernel
theorem dL_where_2 : decode cL_where 2 = .ok (.iconst 0, 1) := by decide +kernel
theorem dL_where_3 : decode cL_where 3 = .ok (.aload_n 0, 1) := by decide +kernel
theorem dL_where_4 : decode cL_where 4 = .ok (.iload_n 1, 1) := by decide +kernel
theorem dL_where_5 : decode cL_where 5 = .ok (.iload_n 2, 1) := by decide +kernel
theorem dL_where_6 : decode cL_where 6 = .ok (.iload_n 3, 1) := by decide +kernel
theorem dL_where_7 : decode cL_where 7 = .ok (.invokevirtual 30, 3) := by decide +kernel
theorem dL_where_10 : decode cL_where 10 = .ok (.i2l, 1) := by decide +kernel
theorem dL_where_11 : decode cL_where 11 = .ok (.lastore, 1) := by decide +kernel
theorem dL_where_12 : decode cL_where 12 = .ok (.goto 11, 3) := by decide +kernel
theorem dL_where_15 : decode cL_where 15 = .ok (.astore 5, 2) := by decide +kernel
theorem dL_where_17 : decode cL_where 17 = .ok (.iconst 1, 1) := by decide +kernel
theorem dL_where_18 : decode cL_where 18 = .ok (.ireturn, 1) := by decide +kernel
theorem dL_where_19 : decode cL_where 19 = .ok (.astore 5, 2) := by decide +kernel
theorem dL_where_21 : decode cL_where 21 = .ok (.iconst 2, 1) := by decide +kernel
theorem dL_where_22 : decode cL_where 22 = .ok (.ireturn, 1) := by decide +kernel
theorem dL_where_23 : decode cL_where 23 = .ok (.iconst 0, 1) := by decide +kernel
theorem dL_where_24 : decode cL_where 24 = .ok (.ireturn, 1) := by decide +kernel
theorem dL_meet_0 : decode cL_meet 0 = .ok (.aload 4, 2) := by decide +kernel
theorem dL_meet_2 : decode cL_meet 2 = .ok (.iconst 0, 1) := by decide +kernel
theorem dL_meet_3 : decode cL_meet 3 = .ok (.aload_n 0, 1) := by decide +kernel
theorem dL_meet_4 : decode cL_meet 4 = .ok (.iload_n 1, 1) := by decide +kernel
theorem dL_meet_5 : decode cL_meet 5 = .ok (.iload_n 2, 1) := by decide +kernel
theorem dL_meet_6 : decode cL_meet 6 = .ok (.iload_n 3, 1) := by decide +kernel
theorem dL_meet_7 : decode cL_meet 7 = .ok (.invokevirtual 33, 3) := by decide +kernel
theorem dL_meet_10 : decode cL_meet 10 = .ok (.ifCond .eq 7, 3) := by decide +kernel
theorem dL_meet_13 : decode cL_meet 13 = .ok (.lconst 1, 1) := by decide +kernel
theorem dL_meet_14 : decode cL_meet 14 = .ok (.goto 4, 3) := by decide +kernel
theorem dL_meet_17 : decode cL_meet 17 = .ok (.lconst 0, 1) := by decide +kernel
theorem dL_meet_18 : decode cL_meet 18 = .ok (.lastore, 1) := by decide +kernel
theorem dL_meet_19 : decode cL_meet 19 = .ok (.goto 11, 3) := by decide +kernel
theorem dL_meet_22 : decode cL_meet 22 = .ok (.astore 5, 2) := by decide +kernel
theorem dL_meet_24 : decode cL_meet 24 = .ok (.iconst 1, 1) := by decide +kernel
theorem dL_meet_25 : decode cL_meet 25 = .ok (.ireturn, 1) := by decide +kernel
theorem dL_meet_26 : decode cL_meet 26 = .ok (.astore 5, 2) := by decide +kernel
theorem dL_meet_28 : decode cL_meet 28 = .ok (.iconst 2, 1) := by decide +kernel
theorem dL_meet_29 : decode cL_meet 29 = .ok (.ireturn, 1) := by decide +kernel
theorem dL_meet_30 : decode cL_meet 30 = .ok (.iconst 0, 1) := by decide +kernel
theorem dL_meet_31 : decode cL_meet 31 = .ok (.ireturn, 1) := by decide +kernel
theorem dL_laid_0 : decode cL_laid 0 = .ok (.aload_n 3, 1) := by decide +kernel
theorem dL_laid_1 : decode cL_laid 1 = .ok (.iconst 0, 1) := by decide +kernel
theorem dL_laid_2 : decode cL_laid 2 = .ok (.aload_n 0, 1) := by decide +kernel
theorem dL_laid_3 : decode cL_laid 3 = .ok (.iload_n 1, 1) := by decide +kernel
theorem dL_laid_4 : decode cL_laid 4 = .ok (.iload_n 2, 1) := by decide +kernel
theorem dL_laid_5 : decode cL_laid 5 = .ok (.invokevirtual 37, 3) := by decide +kernel
theorem dL_laid_8 : decode cL_laid 8 = .ok (.i2l, 1) := by decide +kernel
theorem dL_laid_9 : decode cL_laid 9 = .ok (.lastore, 1) := by decide +kernel
theorem dL_laid_10 : decode cL_laid 10 = .ok (.goto 11, 3) := by decide +kernel
theorem dL_laid_13 : decode cL_laid 13 = .ok (.astore 4, 2) := by decide +kernel
theorem dL_laid_15 : decode cL_laid 15 = .ok (.iconst 1, 1) := by decide +kernel
theorem dL_laid_16 : decode cL_laid 16 = .ok (.ireturn, 1) := by decide +kernel
theorem dL_laid_17 : decode cL_laid 17 = .ok (.astore 4, 2) := by decide +kernel
theorem dL_laid_19 : decode cL_laid 19 = .ok (.iconst 2, 1) := by decide +kernel
theorem dL_laid_20 : decode cL_laid 20 = .ok (.ireturn, 1) := by decide +kernel
theorem dL_laid_21 : decode cL_laid 21 = .ok (.iconst 0, 1) := by decide +kernel
theorem dL_laid_22 : decode cL_laid 22 = .ok (.ireturn, 1) := by decide +kernel
theorem dL_glue_0 : decode cL_glue 0 = .ok (.aload_n 2, 1) := by decide +kernel
theorem dL_glue_1 : decode cL_glue 1 = .ok (.iconst 0, 1) := by decide +kernel
theorem dL_glue_2 : decode cL_glue 2 = .ok (.aload_n 0, 1) := by decide +kernel
theorem dL_glue_3 : decode cL_glue 3 = .ok (.iload_n 1, 1) := by decide +kernel
theorem dL_glue_4 : decode cL_glue 4 = .ok (.invokevirtual 40, 3) := by decide +kernel
theorem dL_glue_7 : decode cL_glue 7 = .ok (.i2l, 1) := by decide +kernel
theorem dL_glue_8 : decode cL_glue 8 = .ok (.lastore, 1) := by decide +kernel
theorem dL_glue_9 : decode cL_glue 9 = .ok (.goto 9, 3) := by decide +kernel
theorem dL_glue_12 : decode cL_glue 12 = .ok (.astore_n 3, 1) := by decide +kernel
theorem dL_glue_13 : decode cL_glue 13 = .ok (.iconst 1, 1) := by decide +kernel
theorem dL_glue_14 : decode cL_glue 14 = .ok (.ireturn, 1) := by decide +kernel
theorem dL_glue_15 : decode cL_glue 15 = .ok (.astore_n 3, 1) := by decide +kernel
theorem dL_glue_16 : decode cL_glue 16 = .ok (.iconst 2, 1) := by decide +kernel
theorem dL_glue_17 : decode cL_glue 17 = .ok (.ireturn, 1) := by decide +kernel
theorem dL_glue_18 : decode cL_glue 18 = .ok (.iconst 0, 1) := by decide +kernel
theorem dL_glue_19 : decode cL_glue 19 = .ok (.ireturn, 1) := by decide +kernel
theorem dL_unglue_0 : decode cL_unglue 0 = .ok (.aload_n 1, 1) := by decide +kernel
theorem dL_unglue_1 : decode cL_unglue 1 = .ok (.iconst 0, 1) := by decide +kernel
theorem dL_unglue_2 : decode cL_unglue 2 = .ok (.aload_n 0, 1) := by decide +kernel
theorem dL_unglue_3 : decode cL_unglue 3 = .ok (.invokevirtual 44, 3) := by decide +kernel
theorem dL_unglue_6 : decode cL_unglue 6 = .ok (.i2l, 1) := by decide +kernel
theorem dL_unglue_7 : decode cL_unglue 7 = .ok (.lastore, 1) := by decide +kernel
theorem dL_unglue_8 : decode cL_unglue 8 = .ok (.goto 6, 3) := by decide +kernel
theorem dL_unglue_11 : decode cL_unglue 11 = .ok (.astore_n 2, 1) := by decide +kernel
theorem dL_unglue_12 : decode cL_unglue 12 = .ok (.iconst 1, 1) := by decide +kernel
theorem dL_unglue_13 : decode cL_unglue 13 = .ok (.ireturn, 1) := by decide +kernel
theorem dL_unglue_14 : decode cL_unglue 14 = .ok (.iconst 0, 1) := by decide +kernel
theorem dL_unglue_15 : decode cL_unglue 15 = .ok (.ireturn, 1) := by decide +kernel
theorem dL_glued_0 : decode cL_glued 0 = .ok (.aload_n 2, 1) := by decide +kernel
theorem dL_glued_1 : decode cL_glued 1 = .ok (.iconst 0, 1) := by decide +kernel
theorem dL_glued_2 : decode cL_glued 2 = .ok (.aload_n 0, 1) := by decide +kernel
theorem dL_glued_3 : decode cL_glued 3 = .ok (.iload_n 1, 1) := by decide +kernel
theorem dL_glued_4 : decode cL_glued 4 = .ok (.invokevirtual 48, 3) := by decide +kernel
theorem dL_glued_7 : decode cL_glued 7 = .ok (.i2l, 1) := by decide +kernel
theorem dL_glued_8 : decode cL_glued 8 = .ok (.lastore, 1) := by decide +kernel
theorem dL_glued_9 : decode cL_glued 9 = .ok (.goto 6, 3) := by decide +kernel
theorem dL_glued_12 : decode cL_glued 12 = .ok (.astore_n 3, 1) := by decide +kernel
theorem dL_glued_13 : decode cL_glued 13 = .ok (.iconst 1, 1) := by decide +kernel
theorem dL_glued_14 : decode cL_glued 14 = .ok (.ireturn, 1) := by decide +kernel
theorem dL_glued_15 : decode cL_glued 15 = .ok (.iconst 0, 1) := by decide +kernel
theorem dL_glued_16 : decode cL_glued 16 = .ok (.ireturn, 1) := by decide +kernel
theorem dL_resize_0 : decode cL_resize 0 = .ok (.aload_n 3, 1) := by decide +kernel
theorem dL_resize_1 : decode cL_resize 1 = .ok (.iconst 0, 1) := by decide +kernel
theorem dL_resize_2 : decode cL_resize 2 = .ok (.aload_n 0, 1) := by decide +kernel
theorem dL_resize_3 : decode cL_resize 3 = .ok (.iload_n 1, 1) := by decide +kernel
theorem dL_resize_4 : decode cL_resize 4 = .ok (.iload_n 2, 1) := by decide +kernel
theorem dL_resize_5 : decode cL_resize 5 = .ok (.invokevirtual 51, 3) := by decide +kernel
theorem dL_resize_8 : decode cL_resize 8 = .ok (.i2l, 1) := by decide +kernel
theorem dL_resize_9 : decode cL_resize 9 = .ok (.lastore, 1) := by decide +kernel
theorem dL_resize_10 : decode cL_resize 10 = .ok (.goto 11, 3) := by decide +kernel
theorem dL_resize_13 : decode cL_resize 13 = .ok (.astore 4, 2) := by decide +kernel
theorem dL_resize_15 : decode cL_resize 15 = .ok (.iconst 1, 1) := by decide +kernel
theorem dL_resize_16 : decode cL_resize 16 = .ok (.ireturn, 1) := by decide +kernel
theorem dL_resize_17 : decode cL_resize 17 = .ok (.astore 4, 2) := by decide +kernel
theorem dL_resize_19 : decode cL_resize 19 = .ok (.iconst 2, 1) := by decide +kernel
theorem dL_resize_20 : decode cL_resize 20 = .ok (.ireturn, 1) := by decide +kernel
theorem dL_resize_21 : decode cL_resize 21 = .ok (.iconst 0, 1) := by decide +kernel
theorem dL_resize_22 : decode cL_resize 22 = .ok (.ireturn, 1) := by decide +kernel
theorem dL_tells_0 : decode cL_tells 0 = .ok (.aload_n 3, 1) := by decide +kernel
theorem dL_tells_1 : decode cL_tells 1 = .ok (.iconst 0, 1) := by decide +kernel
theorem dL_tells_2 : decode cL_tells 2 = .ok (.aload_n 0, 1) := by decide +kernel
theorem dL_tells_3 : decode cL_tells 3 = .ok (.iload_n 1, 1) := by decide +kernel
theorem dL_tells_4 : decode cL_tells 4 = .ok (.iload_n 2, 1) := by decide +kernel
theorem dL_tells_5 : decode cL_tells 5 = .ok (.invokevirtual 54, 3) := by decide +kernel
theorem dL_tells_8 : decode cL_tells 8 = .ok (.i2l, 1) := by decide +kernel
theorem dL_tells_9 : decode cL_tells 9 = .ok (.lastore, 1) := by decide +kernel
theorem dL_tells_10 : decode cL_tells 10 = .ok (.goto 7, 3) := by decide +kernel
theorem dL_tells_13 : decode cL_tells 13 = .ok (.astore 4, 2) := by decide +kernel
theorem dL_tells_15 : decode cL_tells 15 = .ok (.iconst 1, 1) := by decide +kernel
theorem dL_tells_16 : decode cL_tells 16 = .ok (.ireturn, 1) := by decide +kernel
theorem dL_tells_17 : decode cL_tells 17 = .ok (.iconst 0, 1) := by decide +kernel
theorem dL_tells_18 : decode cL_tells 18 = .ok (.ireturn, 1) := by decide +kernel
theorem dL_law_0 : decode cL_law 0 = .ok (.new 8, 3) := by decide +kernel
theorem dL_law_3 : decode cL_law 3 = .ok (.dup, 1) := by decide +kernel
theorem dL_law_4 : decode cL_law 4 = .ok (.invokespecial 58, 3) := by decide +kernel
theorem dL_law_7 : decode cL_law 7 = .ok (.astore_n 1, 1) := by decide +kernel
theorem dL_law_8 : decode cL_law 8 = .ok (.new 59, 3) := by decide +kernel
theorem dL_law_11 : decode cL_law 11 = .ok (.dup, 1) := by decide +kernel
theorem dL_law_12 : decode cL_law 12 = .ok (.invokespecial 61, 3) := by decide +kernel
theorem dL_law_15 : decode cL_law 15 = .ok (.astore_n 2, 1) := by decide +kernel
theorem dL_law_16 : decode cL_law 16 = .ok (.iconst 1, 1) := by decide +kernel
theorem dL_law_17 : decode cL_law 17 = .ok (.newarray .long, 2) := by decide +kernel
theorem dL_law_19 : decode cL_law 19 = .ok (.astore_n 3, 1) := by decide +kernel
theorem dL_law_20 : decode cL_law 20 = .ok (.iconst 0, 1) := by decide +kernel
theorem dL_law_21 : decode cL_law 21 = .ok (.istore 4, 2) := by decide +kernel
theorem dL_law_23 : decode cL_law 23 = .ok (.iload 4, 2) := by decide +kernel
theorem dL_law_25 : decode cL_law 25 = .ok (.aload_n 0, 1) := by decide +kernel
theorem dL_law_26 : decode cL_law 26 = .ok (.arraylength, 1) := by decide +kernel
theorem dL_law_27 : decode cL_law 27 = .ok (.bipush 7, 2) := by decide +kernel
theorem dL_law_29 : decode cL_law 29 = .ok (.isub, 1) := by decide +kernel
theorem dL_law_30 : decode cL_law 30 = .ok (.if_icmp .gt 1008, 3) := by decide +kernel
theorem dL_law_33 : decode cL_law 33 = .ok (.aload_n 0, 1) := by decide +kernel
theorem dL_law_34 : decode cL_law 34 = .ok (.iload 4, 2) := by decide +kernel
theorem dL_law_36 : decode cL_law 36 = .ok (.iaload, 1) := by decide +kernel
theorem dL_law_37 : decode cL_law 37 = .ok (.bipush 15, 2) := by decide +kernel
theorem dL_law_39 : decode cL_law 39 = .ok (.iand, 1) := by decide +kernel
theorem dL_law_40 : decode cL_law 40 = .ok (.tableswitch 992 0 14 #[76, 156, 290, 358, 426, 506, 593, 606, 619, 687, 743, 787, 843, 911, 924], 76) := by decide +kernel
theorem dL_law_116 : decode cL_law 116 = .ok (.aload_n 1, 1) := by decide +kernel
theorem dL_law_117 : decode cL_law 117 = .ok (.aload_n 0, 1) := by decide +kernel
theorem dL_law_118 : decode cL_law 118 = .ok (.iload 4, 2) := by decide +kernel
theorem dL_law_120 : decode cL_law 120 = .ok (.iconst 1, 1) := by decide +kernel
theorem dL_law_121 : decode cL_law 121 = .ok (.iadd, 1) := by decide +kernel
theorem dL_law_122 : decode cL_law 122 = .ok (.iaload, 1) := by decide +kernel
theorem dL_law_123 : decode cL_law 123 = .ok (.aload_n 0, 1) := by decide +kernel
theorem dL_law_124 : decode cL_law 124 = .ok (.iload 4, 2) := by decide +kernel
theorem dL_law_126 : decode cL_law 126 = .ok (.iconst 2, 1) := by decide +kernel
theorem dL_law_127 : decode cL_law 127 = .ok (.iadd, 1) := by decide +kernel
theorem dL_law_128 : decode cL_law 128 = .ok (.iaload, 1) := by decide +kernel
theorem dL_law_129 : decode cL_law 129 = .ok (.aload_n 0, 1) := by decide +kernel
theorem dL_law_130 : decode cL_law 130 = .ok (.iload 4, 2) := by decide +kernel
theorem dL_law_132 : decode cL_law 132 = .ok (.iconst 3, 1) := by decide +kernel
theorem dL_law_133 : decode cL_law 133 = .ok (.iadd, 1) := by decide +kernel
theorem dL_law_134 : decode cL_law 134 = .ok (.iaload, 1) := by decide +kernel
theorem dL_law_135 : decode cL_law 135 = .ok (.aload_n 3, 1) := by decide +kernel
theorem dL_law_136 : decode cL_law 136 = .ok (.invokestatic 62, 3) := by decide +kernel
theorem dL_law_139 : decode cL_law 139 = .ok (.istore 5, 2) := by decide +kernel
theorem dL_law_141 : decode cL_law 141 = .ok (.aload_n 2, 1) := by decide +kernel
theorem dL_law_142 : decode cL_law 142 = .ok (.aload_n 0, 1) := by decide +kernel
theorem dL_law_143 : decode cL_law 143 = .ok (.iload 4, 2) := by decide +kernel
theorem dL_law_145 : decode cL_law 145 = .ok (.iconst 1, 1) := by decide +kernel
theorem dL_law_146 : decode cL_law 146 = .ok (.iadd, 1) := by decide +kernel
theorem dL_law_147 : decode cL_law 147 = .ok (.iaload, 1) := by decide +kernel
theorem dL_law_148 : decode cL_law 148 = .ok (.aload_n 0, 1) := by decide +kernel
theorem dL_law_149 : decode cL_law 149 = .ok (.iload 4, 2) := by decide +kernel
theorem dL_law_151 : decode cL_law 151 = .ok (.iconst 2, 1) := by decide +kernel
theorem dL_law_152 : decode cL_law 152 = .ok (.iadd, 1) := by decide +kernel
theorem dL_law_153 : decode cL_law 153 = .ok (.iaload, 1) := by decide +kernel
theorem dL_law_154 : decode cL_law 154 = .ok (.aload_n 0, 1) := by decide +kernel
theorem dL_law_155 : decode cL_law 155 = .ok (.iload 4, 2) := by decide +kernel
theorem dL_law_157 : decode cL_law 157 = .ok (.iconst 3, 1) := by decide +kernel
theorem dL_law_158 : decode cL_law 158 = .ok (.iadd, 1) := by decide +kernel
theorem dL_law_159 : decode cL_law 159 = .ok (.iaload, 1) := by decide +kernel
theorem dL_law_160 : decode cL_law 160 = .ok (.invokevirtual 67, 3) := by decide +kernel
theorem dL_law_163 : decode cL_law 163 = .ok (.istore 6, 2) := by decide +kernel
theorem dL_law_165 : decode cL_law 165 = .ok (.aload_n 2, 1) := by decide +kernel
theorem dL_law_166 : decode cL_law 166 = .ok (.invokevirtual 68, 3) := by decide +kernel
theorem dL_law_169 : decode cL_law 169 = .ok (.iload 5, 2) := by decide +kernel
theorem dL_law_171 : decode cL_law 171 = .ok (.if_icmp .eq 5, 3) := by decide +kernel
theorem dL_law_174 : decode cL_law 174 = .ok (.iconst 0, 1) := by decide +kernel
theorem dL_law_175 : decode cL_law 175 = .ok (.ireturn, 1) := by decide +kernel
theorem dL_law_176 : decode cL_law 176 = .ok (.iload 5, 2) := by decide +kernel
theorem dL_law_178 : decode cL_law 178 = .ok (.ifCond .ne 15, 3) := by decide +kernel
theorem dL_law_181 : decode cL_law 181 = .ok (.aload_n 3, 1) := by decide +kernel
theorem dL_law_182 : decode cL_law 182 = .ok (.iconst 0, 1) := by decide +kernel
theorem dL_law_183 : decode cL_law 183 = .ok (.laload, 1) := by decide +kernel
theorem dL_law_184 : decode cL_law 184 = .ok (.iload 6, 2) := by decide +kernel
theorem dL_law_186 : decode cL_law 186 = .ok (.i2l, 1) := by decide +kernel
theorem dL_law_187 : decode cL_law 187 = .ok (.lcmp, 1) := by decide +kernel
theorem dL_law_188 : decode cL_law 188 = .ok (.ifCond .eq 5, 3) := by decide +kernel
theorem dL_law_191 : decode cL_law 191 = .ok (.iconst 0, 1) := by decide +kernel
theorem dL_law_192 : decode cL_law 192 = .ok (.ireturn, 1) := by decide +kernel
theorem dL_law_193 : decode cL_law 193 = .ok (.goto 839, 3) := by decide +kernel
theorem dL_law_196 : decode cL_law 196 = .ok (.aload_n 1, 1) := by decide +kernel
theorem dL_law_197 : decode cL_law 197 = .ok (.aload_n 0, 1) := by decide +kernel
theorem dL_law_198 : decode cL_law 198 = .ok (.iload 4, 2) := by decide +kernel
theorem dL_law_200 : decode cL_law 200 = .ok (.iconst 1, 1) := by decide +kernel
theorem dL_law_201 : decode cL_law 201 = .ok (.iadd, 1) := by decide +kernel
theorem dL_law_202 : decode cL_law 202 = .ok (.iaload, 1) := by decide +kernel
theorem dL_law_203 : decode cL_law 203 = .ok (.aload_n 0, 1) := by decide +kernel
theorem dL_law_204 : decode cL_law 204 = .ok (.iload 4, 2) := by decide +kernel
theorem dL_law_206 : decode cL_law 206 = .ok (.iconst 2, 1) := by decide +kernel
theorem dL_law_207 : decode cL_law 207 = .ok (.iadd, 1) := by decide +kernel
theorem dL_law_208 : decode cL_law 208 = .ok (.iaload, 1) := by decide +kernel
theorem dL_law_209 : decode cL_law 209 = .ok (.aload_n 0, 1) := by decide +kernel
theorem dL_law_210 : decode cL_law 210 = .ok (.iload 4, 2) := by decide +kernel
theorem dL_law_212 : decode cL_law 212 = .ok (.iconst 3, 1) := by decide +kernel
theorem dL_law_213 : decode cL_law 213 = .ok (.iadd, 1) := by decide +kernel
theorem dL_law_214 : decode cL_law 214 = .ok (.iaload, 1) := by decide +kernel
theorem dL_law_215 : decode cL_law 215 = .ok (.aload_n 0, 1) := by decide +kernel
theorem dL_law_216 : decode cL_law 216 = .ok (.iload 4, 2) := by decide +kernel
theorem dL_law_218 : decode cL_law 218 = .ok (.iconst 4, 1) := by decide +kernel
theorem dL_law_219 : decode cL_law 219 = .ok (.iadd, 1) := by decide +kernel
theorem dL_law_220 : decode cL_law 220 = .ok (.iaload, 1) := by decide +kernel
theorem dL_law_221 : decode cL_law 221 = .ok (.aload_n 0, 1) := by decide +kernel
theorem dL_law_222 : decode cL_law 222 = .ok (.iload 4, 2) := by decide +kernel
theorem dL_law_224 : decode cL_law 224 = .ok (.iconst 5, 1) := by decide +kernel
theorem dL_law_225 : decode cL_law 225 = .ok (.iadd, 1) := by decide +kernel
theorem dL_law_226 : decode cL_law 226 = .ok (.iaload, 1) := by decide +kernel
theorem dL_law_227 : decode cL_law 227 = .ok (.aload_n 0, 1) := by decide +kernel
theorem dL_law_228 : decode cL_law 228 = .ok (.iload 4, 2) := by decide +kernel
theorem dL_law_230 : decode cL_law 230 = .ok (.bipush 6, 2) := by decide +kernel
theorem dL_law_232 : decode cL_law 232 = .ok (.iadd, 1) := by decide +kernel
theorem dL_law_233 : decode cL_law 233 = .ok (.iaload, 1) := by decide +kernel
theorem dL_law_234 : decode cL_law 234 = .ok (.ifCond .eq 7, 3) := by decide +kernel
theorem dL_law_237 : decode cL_law 237 = .ok (.iconst 1, 1) := by decide +kernel
theorem dL_law_238 : decode cL_law 238 = .ok (.goto 4, 3) := by decide +kernel
theorem dL_law_241 : decode cL_law 241 = .ok (.iconst 0, 1) := by decide +kernel
theorem dL_law_242 : decode cL_law 242 = .ok (.aload_n 3, 1) := by decide +kernel
theorem dL_law_243 : decode cL_law 243 = .ok (.invokestatic 71, 3) := by decide +kernel
theorem dL_law_246 : decode cL_law 246 = .ok (.istore 5, 2) := by decide +kernel
theorem dL_law_248 : decode cL_law 248 = .ok (.aload_n 2, 1) := by decide +kernel
theorem dL_law_249 : decode cL_law 249 = .ok (.aload_n 0, 1) := by decide +kernel
theorem dL_law_250 : decode cL_law 250 = .ok (.iload 4, 2) := by decide +kernel
theorem dL_law_252 : decode cL_law 252 = .ok (.iconst 1, 1) := by decide +kernel
theorem dL_law_253 : decode cL_law 253 = .ok (.iadd, 1) := by decide +kernel
theorem dL_law_254 : decode cL_law 254 = .ok (.iaload, 1) := by decide +kernel
theorem dL_law_255 : decode cL_law 255 = .ok (.aload_n 0, 1) := by decide +kernel
theorem dL_law_256 : decode cL_law 256 = .ok (.iload 4, 2) := by decide +kernel
theorem dL_law_258 : decode cL_law 258 = .ok (.iconst 2, 1) := by decide +kernel
theorem dL_law_259 : decode cL_law 259 = .ok (.iadd, 1) := by decide +kernel
theorem dL_law_260 : decode cL_law 260 = .ok (.iaload, 1) := by decide +kernel
theorem dL_law_261 : decode cL_law 261 = .ok (.aload_n 0, 1) := by decide +kernel
theorem dL_law_262 : decode cL_law 262 = .ok (.iload 4, 2) := by decide +kernel
theorem dL_law_264 : decode cL_law 264 = .ok (.iconst 3, 1) := by decide +kernel
theorem dL_law_265 : decode cL_law 265 = .ok (.iadd, 1) := by decide +kernel
theorem dL_law_266 : decode cL_law 266 = .ok (.iaload, 1) := by decide +kernel
theorem dL_law_267 : decode cL_law 267 = .ok (.aload_n 0, 1) := by decide +kernel
theorem dL_law_268 : decode cL_law 268 = .ok (.iload 4, 2) := by decide +kernel
theorem dL_law_270 : decode cL_law 270 = .ok (.iconst 4, 1) := by decide +kernel
theorem dL_law_271 : decode cL_law 271 = .ok (.iadd, 1) := by decide +kernel
theorem dL_law_272 : decode cL_law 272 = .ok (.iaload, 1) := by decide +kernel
theorem dL_law_273 : decode cL_law 273 = .ok (.aload_n 0, 1) := by decide +kernel
theorem dL_law_274 : decode cL_law 274 = .ok (.iload 4, 2) := by decide +kernel
theorem dL_law_276 : decode cL_law 276 = .ok (.iconst 5, 1) := by decide +kernel
theorem dL_law_277 : decode cL_law 277 = .ok (.iadd, 1) := by decide +kernel
theorem dL_law_278 : decode cL_law 278 = .ok (.iaload, 1) := by decide +kernel
theorem dL_law_279 : decode cL_law 279 = .ok (.aload_n 0, 1) := by decide +kernel
theorem dL_law_280 : decode cL_law 280 = .ok (.iload 4, 2) := by decide +kernel
theorem dL_law_282 : decode cL_law 282 = .ok (.bipush 6, 2) := by decide +kernel
theorem dL_law_284 : decode cL_law 284 = .ok (.iadd, 1) := by decide +kernel
theorem dL_law_285 : decode cL_law 285 = .ok (.iaload, 1) := by decide +kernel
theorem dL_law_286 : decode cL_law 286 = .ok (.ifCond .eq 7, 3) := by decide +kernel
theorem dL_law_289 : decode cL_law 289 = .ok (.iconst 1, 1) := by decide +kernel
theorem dL_law_290 : decode cL_law 290 = .ok (.goto 4, 3) := by decide +kernel
theorem dL_law_293 : decode cL_law 293 = .ok (.iconst 0, 1) := by decide +kernel
theorem dL_law_294 : decode cL_law 294 = .ok (.invokevirtual 74, 3) := by decide +kernel
theorem dL_law_297 : decode cL_law 297 = .ok (.istore 6, 2) := by decide +kernel
theorem dL_law_299 : decode cL_law 299 = .ok (.aload_n 2, 1) := by decide +kernel
theorem dL_law_300 : decode cL_law 300 = .ok (.invokevirtual 68, 3) := by decide +kernel
theorem dL_law_303 : decode cL_law 303 = .ok (.iload 5, 2) := by decide +kernel
theorem dL_law_305 : decode cL_law 305 = .ok (.if_icmp .eq 5, 3) := by decide +kernel
theorem dL_law_308 : decode cL_law 308 = .ok (.iconst 0, 1) := by decide +kernel
theorem dL_law_309 : decode cL_law 309 = .ok (.ireturn, 1) := by decide +kernel
theorem dL_law_310 : decode cL_law 310 = .ok (.iload 5, 2) := by decide +kernel
theorem dL_law_312 : decode cL_law 312 = .ok (.ifCond .ne 15, 3) := by decide +kernel
theorem dL_law_315 : decode cL_law 315 = .ok (.aload_n 3, 1) := by decide +kernel
theorem dL_law_316 : decode cL_law 316 = .ok (.iconst 0, 1) := by decide +kernel
theorem dL_law_317 : decode cL_law 317 = .ok (.laload, 1) := by decide +kernel
theorem dL_law_318 : decode cL_law 318 = .ok (.iload 6, 2) := by decide +kernel
theorem dL_law_320 : decode cL_law 320 = .ok (.i2l, 1) := by decide +kernel
theorem dL_law_321 : decode cL_law 321 = .ok (.lcmp, 1) := by decide +kernel
theorem dL_law_322 : decode cL_law 322 = .ok (.ifCond .eq 5, 3) := by decide +kernel
theorem dL_law_325 : decode cL_law 325 = .ok (.iconst 0, 1) := by decide +kernel
theorem dL_law_326 : decode cL_law 326 = .ok (.ireturn, 1) := by decide +kernel
theorem dL_law_327 : decode cL_law 327 = .ok (.goto 705, 3) := by decide +kernel
theorem dL_law_330 : decode cL_law 330 = .ok (.aload_n 1, 1) := by decide +kernel
theorem dL_law_331 : decode cL_law 331 = .ok (.aload_n 0, 1) := by decide +kernel
theorem dL_law_332 : decode cL_law 332 = .ok (.iload 4, 2) := by decide +kernel
theorem dL_law_334 : decode cL_law 334 = .ok (.iconst 1, 1) := by decide +kernel
theorem dL_law_335 : decode cL_law 335 = .ok (.iadd, 1) := by decide +kernel
theorem dL_law_336 : decode cL_law 336 = .ok (.iaload, 1) := by decide +kernel
theorem dL_law_337 : decode cL_law 337 = .ok (.aload_n 0, 1) := by decide +kernel
theorem dL_law_338 : decode cL_law 338 = .ok (.iload 4, 2) := by decide +kernel
theorem dL_law_340 : decode cL_law 340 = .ok (.iconst 2, 1) := by decide +kernel
theorem dL_law_341 : decode cL_law 341 = .ok (.iadd, 1) := by decide +kernel
theorem dL_law_342 : decode cL_law 342 = .ok (.iaload, 1) := by decide +kernel
theorem dL_law_343 : decode cL_law 343 = .ok (.aload_n 3, 1) := by decide +kernel
theorem dL_law_344 : decode cL_law 344 = .ok (.invokestatic 75, 3) := by decide +kernel
theorem dL_law_347 : decode cL_law 347 = .ok (.istore 5, 2) := by decide +kernel
theorem dL_law_349 : decode cL_law 349 = .ok (.aload_n 2, 1) := by decide +kernel
theorem dL_law_350 : decode cL_law 350 = .ok (.aload_n 0, 1) := by decide +kernel
theorem dL_law_351 : decode cL_law 351 = .ok (.iload 4, 2) := by decide +kernel
theorem dL_law_353 : decode cL_law 353 = .ok (.iconst 1, 1) := by decide +kernel
theorem dL_law_354 : decode cL_law 354 = .ok (.iadd, 1) := by decide +kernel
theorem dL_law_355 : decode cL_law 355 = .ok (.iaload, 1) := by decide +kernel
theorem dL_law_356 : decode cL_law 356 = .ok (.aload_n 0, 1) := by decide +kernel
theorem dL_law_357 : decode cL_law 357 = .ok (.iload 4, 2) := by decide +kernel
theorem dL_law_359 : decode cL_law 359 = .ok (.iconst 2, 1) := by decide +kernel
theorem dL_law_360 : decode cL_law 360 = .ok (.iadd, 1) := by decide +kernel
theorem dL_law_361 : decode cL_law 361 = .ok (.iaload, 1) := by decide +kernel
theorem dL_law_362 : decode cL_law 362 = .ok (.invokevirtual 78, 3) := by decide +kernel
theorem dL_law_365 : decode cL_law 365 = .ok (.istore 6, 2) := by decide +kernel
theorem dL_law_367 : decode cL_law 367 = .ok (.aload_n 2, 1) := by decide +kernel
theorem dL_law_368 : decode cL_law 368 = .ok (.invokevirtual 68, 3) := by decide +kernel
theorem dL_law_371 : decode cL_law 371 = .ok (.iload 5, 2) := by decide +kernel
theorem dL_law_373 : decode cL_law 373 = .ok (.if_icmp .eq 5, 3) := by decide +kernel
theorem dL_law_376 : decode cL_law 376 = .ok (.iconst 0, 1) := by decide +kernel
theorem dL_law_377 : decode cL_law 377 = .ok (.ireturn, 1) := by decide +kernel
theorem dL_law_378 : decode cL_law 378 = .ok (.iload 5, 2) := by decide +kernel
theorem dL_law_380 : decode cL_law 380 = .ok (.ifCond .ne 15, 3) := by decide +kernel
theorem dL_law_383 : decode cL_law 383 = .ok (.aload_n 3, 1) := by decide +kernel
theorem dL_law_384 : decode cL_law 384 = .ok (.iconst 0, 1) := by decide +kernel
theorem dL_law_385 : decode cL_law 385 = .ok (.laload, 1) := by decide +kernel
theorem dL_law_386 : decode cL_law 386 = .ok (.iload 6, 2) := by decide +kernel
theorem dL_law_388 : decode cL_law 388 = .ok (.i2l, 1) := by decide +kernel
theorem dL_law_389 : decode cL_law 389 = .ok (.lcmp, 1) := by decide +kernel
theorem dL_law_390 : decode cL_law 390 = .ok (.ifCond .eq 5, 3) := by decide +kernel
theorem dL_law_393 : decode cL_law 393 = .ok (.iconst 0, 1) := by decide +kernel
theorem dL_law_394 : decode cL_law 394 = .ok (.ireturn, 1) := by decide +kernel
theorem dL_law_395 : decode cL_law 395 = .ok (.goto 637, 3) := by decide +kernel
theorem dL_law_398 : decode cL_law 398 = .ok (.aload_n 1, 1) := by decide +kernel
theorem dL_law_399 : decode cL_law 399 = .ok (.aload_n 0, 1) := by decide +kernel
theorem dL_law_400 : decode cL_law 400 = .ok (.iload 4, 2) := by decide +kernel
theorem dL_law_402 : decode cL_law 402 = .ok (.iconst 1, 1) := by decide +kernel
theorem dL_law_403 : decode cL_law 403 = .ok (.iadd, 1) := by decide +kernel
theorem dL_law_404 : decode cL_law 404 = .ok (.iaload, 1) := by decide +kernel
theorem dL_law_405 : decode cL_law 405 = .ok (.aload_n 0, 1) := by decide +kernel
theorem dL_law_406 : decode cL_law 406 = .ok (.iload 4, 2) := by decide +kernel
theorem dL_law_408 : decode cL_law 408 = .ok (.iconst 2, 1) := by decide +kernel
theorem dL_law_409 : decode cL_law 409 = .ok (.iadd, 1) := by decide +kernel
theorem dL_law_410 : decode cL_law 410 = .ok (.iaload, 1) := by decide +kernel
theorem dL_law_411 : decode cL_law 411 = .ok (.aload_n 3, 1) := by decide +kernel
theorem dL_law_412 : decode cL_law 412 = .ok (.invokestatic 79, 3) := by decide +kernel
theorem dL_law_415 : decode cL_law 415 = .ok (.istore 5, 2) := by decide +kernel
theorem dL_law_417 : decode cL_law 417 = .ok (.aload_n 2, 1) := by decide +kernel
theorem dL_law_418 : decode cL_law 418 = .ok (.aload_n 0, 1) := by decide +kernel
theorem dL_law_419 : decode cL_law 419 = .ok (.iload 4, 2) := by decide +kernel
theorem dL_law_421 : decode cL_law 421 = .ok (.iconst 1, 1) := by decide +kernel
theorem dL_law_422 : decode cL_law 422 = .ok (.iadd, 1) := by decide +kernel
theorem dL_law_423 : decode cL_law 423 = .ok (.iaload, 1) := by decide +kernel
theorem dL_law_424 : decode cL_law 424 = .ok (.aload_n 0, 1) := by decide +kernel
theorem dL_law_425 : decode cL_law 425 = .ok (.iload 4, 2) := by decide +kernel
theorem dL_law_427 : decode cL_law 427 = .ok (.iconst 2, 1) := by decide +kernel
theorem dL_law_428 : decode cL_law 428 = .ok (.iadd, 1) := by decide +kernel
theorem dL_law_429 : decode cL_law 429 = .ok (.iaload, 1) := by decide +kernel
theorem dL_law_430 : decode cL_law 430 = .ok (.invokevirtual 81, 3) := by decide +kernel
theorem dL_law_433 : decode cL_law 433 = .ok (.istore 6, 2) := by decide +kernel
theorem dL_law_435 : decode cL_law 435 = .ok (.aload_n 2, 1) := by decide +kernel
theorem dL_law_436 : decode cL_law 436 = .ok (.invokevirtual 68, 3) := by decide +kernel
theorem dL_law_439 : decode cL_law 439 = .ok (.iload 5, 2) := by decide +kernel
theorem dL_law_441 : decode cL_law 441 = .ok (.if_icmp .eq 5, 3) := by decide +kernel
theorem dL_law_444 : decode cL_law 444 = .ok (.iconst 0, 1) := by decide +kernel
theorem dL_law_445 : decode cL_law 445 = .ok (.ireturn, 1) := by decide +kernel
theorem dL_law_446 : decode cL_law 446 = .ok (.iload 5, 2) := by decide +kernel
theorem dL_law_448 : decode cL_law 448 = .ok (.ifCond .ne 15, 3) := by decide +kernel
theorem dL_law_451 : decode cL_law 451 = .ok (.aload_n 3, 1) := by decide +kernel
theorem dL_law_452 : decode cL_law 452 = .ok (.iconst 0, 1) := by decide +kernel
theorem dL_law_453 : decode cL_law 453 = .ok (.laload, 1) := by decide +kernel
theorem dL_law_454 : decode cL_law 454 = .ok (.iload 6, 2) := by decide +kernel
theorem dL_law_456 : decode cL_law 456 = .ok (.i2l, 1) := by decide +kernel
theorem dL_law_457 : decode cL_law 457 = .ok (.lcmp, 1) := by decide +kernel
theorem dL_law_458 : decode cL_law 458 = .ok (.ifCond .eq 5, 3) := by decide +kernel
theorem dL_law_461 : decode cL_law 461 = .ok (.iconst 0, 1) := by decide +kernel
theorem dL_law_462 : decode cL_law 462 = .ok (.ireturn, 1) := by decide +kernel
theorem dL_law_463 : decode cL_law 463 = .ok (.goto 569, 3) := by decide +kernel
theorem dL_law_466 : decode cL_law 466 = .ok (.aload_n 1, 1) := by decide +kernel
theorem dL_law_467 : decode cL_law 467 = .ok (.aload_n 0, 1) := by decide +kernel
theorem dL_law_468 : decode cL_law 468 = .ok (.iload 4, 2) := by decide +kernel
theorem dL_law_470 : decode cL_law 470 = .ok (.iconst 1, 1) := by decide +kernel
theorem dL_law_471 : decode cL_law 471 = .ok (.iadd, 1) := by decide +kernel
theorem dL_law_472 : decode cL_law 472 = .ok (.iaload, 1) := by decide +kernel
theorem dL_law_473 : decode cL_law 473 = .ok (.aload_n 0, 1) := by decide +kernel
theorem dL_law_474 : decode cL_law 474 = .ok (.iload 4, 2) := by decide +kernel
theorem dL_law_476 : decode cL_law 476 = .ok (.iconst 2, 1) := by decide +kernel
theorem dL_law_477 : decode cL_law 477 = .ok (.iadd, 1) := by decide +kernel
theorem dL_law_478 : decode cL_law 478 = .ok (.iaload, 1) := by decide +kernel
theorem dL_law_479 : decode cL_law 479 = .ok (.aload_n 0, 1) := by decide +kernel
theorem dL_law_480 : decode cL_law 480 = .ok (.iload 4, 2) := by decide +kernel
theorem dL_law_482 : decode cL_law 482 = .ok (.iconst 3, 1) := by decide +kernel
theorem dL_law_483 : decode cL_law 483 = .ok (.iadd, 1) := by decide +kernel
theorem dL_law_484 : decode cL_law 484 = .ok (.iaload, 1) := by decide +kernel
theorem dL_law_485 : decode cL_law 485 = .ok (.aload_n 3, 1) := by decide +kernel
theorem dL_law_486 : decode cL_law 486 = .ok (.invokestatic 82, 3) := by decide +kernel
theorem dL_law_489 : decode cL_law 489 = .ok (.istore 5, 2) := by decide +kernel
theorem dL_law_491 : decode cL_law 491 = .ok (.aload_n 2, 1) := by decide +kernel
theorem dL_law_492 : decode cL_law 492 = .ok (.aload_n 0, 1) := by decide +kernel
theorem dL_law_493 : decode cL_law 493 = .ok (.iload 4, 2) := by decide +kernel
theorem dL_law_495 : decode cL_law 495 = .ok (.iconst 1, 1) := by decide +kernel
theorem dL_law_496 : decode cL_law 496 = .ok (.iadd, 1) := by decide +kernel
theorem dL_law_497 : decode cL_law 497 = .ok (.iaload, 1) := by decide +kernel
theorem dL_law_498 : decode cL_law 498 = .ok (.aload_n 0, 1) := by decide +kernel
theorem dL_law_499 : decode cL_law 499 = .ok (.iload 4, 2) := by decide +kernel
theorem dL_law_501 : decode cL_law 501 = .ok (.iconst 2, 1) := by decide +kernel
theorem dL_law_502 : decode cL_law 502 = .ok (.iadd, 1) := by decide +kernel
theorem dL_law_503 : decode cL_law 503 = .ok (.iaload, 1) := by decide +kernel
theorem dL_law_504 : decode cL_law 504 = .ok (.aload_n 0, 1) := by decide +kernel
theorem dL_law_505 : decode cL_law 505 = .ok (.iload 4, 2) := by decide +kernel
theorem dL_law_507 : decode cL_law 507 = .ok (.iconst 3, 1) := by decide +kernel
theorem dL_law_508 : decode cL_law 508 = .ok (.iadd, 1) := by decide +kernel
theorem dL_law_509 : decode cL_law 509 = .ok (.iaload, 1) := by decide +kernel
theorem dL_law_510 : decode cL_law 510 = .ok (.invokevirtual 84, 3) := by decide +kernel
theorem dL_law_513 : decode cL_law 513 = .ok (.istore 6, 2) := by decide +kernel
theorem dL_law_515 : decode cL_law 515 = .ok (.aload_n 2, 1) := by decide +kernel
theorem dL_law_516 : decode cL_law 516 = .ok (.invokevirtual 68, 3) := by decide +kernel
theorem dL_law_519 : decode cL_law 519 = .ok (.iload 5, 2) := by decide +kernel
theorem dL_law_521 : decode cL_law 521 = .ok (.if_icmp .eq 5, 3) := by decide +kernel
theorem dL_law_524 : decode cL_law 524 = .ok (.iconst 0, 1) := by decide +kernel
theorem dL_law_525 : decode cL_law 525 = .ok (.ireturn, 1) := by decide +kernel
theorem dL_law_526 : decode cL_law 526 = .ok (.iload 5, 2) := by decide +kernel
theorem dL_law_528 : decode cL_law 528 = .ok (.ifCond .ne 15, 3) := by decide +kernel
theorem dL_law_531 : decode cL_law 531 = .ok (.aload_n 3, 1) := by decide +kernel
theorem dL_law_532 : decode cL_law 532 = .ok (.iconst 0, 1) := by decide +kernel
theorem dL_law_533 : decode cL_law 533 = .ok (.laload, 1) := by decide +kernel
theorem dL_law_534 : decode cL_law 534 = .ok (.iload 6, 2) := by decide +kernel
theorem dL_law_536 : decode cL_law 536 = .ok (.i2l, 1) := by decide +kernel
theorem dL_law_537 : decode cL_law 537 = .ok (.lcmp, 1) := by decide +kernel
theorem dL_law_538 : decode cL_law 538 = .ok (.ifCond .eq 5, 3) := by decide +kernel
theorem dL_law_541 : decode cL_law 541 = .ok (.iconst 0, 1) := by decide +kernel
theorem dL_law_542 : decode cL_law 542 = .ok (.ireturn, 1) := by decide +kernel
theorem dL_law_543 : decode cL_law 543 = .ok (.goto 489, 3) := by decide +kernel
theorem dL_law_546 : decode cL_law 546 = .ok (.aload_n 1, 1) := by decide +kernel
theorem dL_law_547 : decode cL_law 547 = .ok (.aload_n 0, 1) := by decide +kernel
theorem dL_law_548 : decode cL_law 548 = .ok (.iload 4, 2) := by decide +kernel
theorem dL_law_550 : decode cL_law 550 = .ok (.iconst 1, 1) := by decide +kernel
theorem dL_law_551 : decode cL_law 551 = .ok (.iadd, 1) := by decide +kernel
theorem dL_law_552 : decode cL_law 552 = .ok (.iaload, 1) := by decide +kernel
theorem dL_law_553 : decode cL_law 553 = .ok (.aload_n 0, 1) := by decide +kernel
theorem dL_law_554 : decode cL_law 554 = .ok (.iload 4, 2) := by decide +kernel
theorem dL_law_556 : decode cL_law 556 = .ok (.iconst 2, 1) := by decide +kernel
theorem dL_law_557 : decode cL_law 557 = .ok (.iadd, 1) := by decide +kernel
theorem dL_law_558 : decode cL_law 558 = .ok (.iaload, 1) := by decide +kernel
theorem dL_law_559 : decode cL_law 559 = .ok (.aload_n 0, 1) := by decide +kernel
theorem dL_law_560 : decode cL_law 560 = .ok (.iload 4, 2) := by decide +kernel
theorem dL_law_562 : decode cL_law 562 = .ok (.iconst 3, 1) := by decide +kernel
theorem dL_law_563 : decode cL_law 563 = .ok (.iadd, 1) := by decide +kernel
theorem dL_law_564 : decode cL_law 564 = .ok (.iaload, 1) := by decide +kernel
theorem dL_law_565 : decode cL_law 565 = .ok (.aload_n 3, 1) := by decide +kernel
theorem dL_law_566 : decode cL_law 566 = .ok (.invokestatic 85, 3) := by decide +kernel
theorem dL_law_569 : decode cL_law 569 = .ok (.istore 5, 2) := by decide +kernel
theorem dL_law_571 : decode cL_law 571 = .ok (.aload_n 2, 1) := by decide +kernel
theorem dL_law_572 : decode cL_law 572 = .ok (.aload_n 0, 1) := by decide +kernel
theorem dL_law_573 : decode cL_law 573 = .ok (.iload 4, 2) := by decide +kernel
theorem dL_law_575 : decode cL_law 575 = .ok (.iconst 1, 1) := by decide +kernel
theorem dL_law_576 : decode cL_law 576 = .ok (.iadd, 1) := by decide +kernel
theorem dL_law_577 : decode cL_law 577 = .ok (.iaload, 1) := by decide +kernel
theorem dL_law_578 : decode cL_law 578 = .ok (.aload_n 0, 1) := by decide +kernel
theorem dL_law_579 : decode cL_law 579 = .ok (.iload 4, 2) := by decide +kernel
theorem dL_law_581 : decode cL_law 581 = .ok (.iconst 2, 1) := by decide +kernel
theorem dL_law_582 : decode cL_law 582 = .ok (.iadd, 1) := by decide +kernel
theorem dL_law_583 : decode cL_law 583 = .ok (.iaload, 1) := by decide +kernel
theorem dL_law_584 : decode cL_law 584 = .ok (.aload_n 0, 1) := by decide +kernel
theorem dL_law_585 : decode cL_law 585 = .ok (.iload 4, 2) := by decide +kernel
theorem dL_law_587 : decode cL_law 587 = .ok (.iconst 3, 1) := by decide +kernel
theorem dL_law_588 : decode cL_law 588 = .ok (.iadd, 1) := by decide +kernel
theorem dL_law_589 : decode cL_law 589 = .ok (.iaload, 1) := by decide +kernel
theorem dL_law_590 : decode cL_law 590 = .ok (.invokevirtual 87, 3) := by decide +kernel
theorem dL_law_593 : decode cL_law 593 = .ok (.istore 6, 2) := by decide +kernel
theorem dL_law_595 : decode cL_law 595 = .ok (.aload_n 2, 1) := by decide +kernel
theorem dL_law_596 : decode cL_law 596 = .ok (.invokevirtual 68, 3) := by decide +kernel
theorem dL_law_599 : decode cL_law 599 = .ok (.iload 5, 2) := by decide +kernel
theorem dL_law_601 : decode cL_law 601 = .ok (.if_icmp .eq 5, 3) := by decide +kernel
theorem dL_law_604 : decode cL_law 604 = .ok (.iconst 0, 1) := by decide +kernel
theorem dL_law_605 : decode cL_law 605 = .ok (.ireturn, 1) := by decide +kernel
theorem dL_law_606 : decode cL_law 606 = .ok (.iload 5, 2) := by decide +kernel
theorem dL_law_608 : decode cL_law 608 = .ok (.ifCond .ne 22, 3) := by decide +kernel
theorem dL_law_611 : decode cL_law 611 = .ok (.aload_n 3, 1) := by decide +kernel
theorem dL_law_612 : decode cL_law 612 = .ok (.iconst 0, 1) := by decide +kernel
theorem dL_law_613 : decode cL_law 613 = .ok (.laload, 1) := by decide +kernel
theorem dL_law_614 : decode cL_law 614 = .ok (.iload 6, 2) := by decide +kernel
theorem dL_law_616 : decode cL_law 616 = .ok (.ifCond .eq 7, 3) := by decide +kernel
theorem dL_law_619 : decode cL_law 619 = .ok (.lconst 1, 1) := by decide +kernel
theorem dL_law_620 : decode cL_law 620 = .ok (.goto 4, 3) := by decide +kernel
theorem dL_law_623 : decode cL_law 623 = .ok (.lconst 0, 1) := by decide +kernel
theorem dL_law_624 : decode cL_law 624 = .ok (.lcmp, 1) := by decide +kernel
theorem dL_law_625 : decode cL_law 625 = .ok (.ifCond .eq 5, 3) := by decide +kernel
theorem dL_law_628 : decode cL_law 628 = .ok (.iconst 0, 1) := by decide +kernel
theorem dL_law_629 : decode cL_law 629 = .ok (.ireturn, 1) := by decide +kernel
theorem dL_law_630 : decode cL_law 630 = .ok (.goto 402, 3) := by decide +kernel
theorem dL_law_633 : decode cL_law 633 = .ok (.aload_n 1, 1) := by decide +kernel
theorem dL_law_634 : decode cL_law 634 = .ok (.invokevirtual 88, 3) := by decide +kernel
theorem dL_law_637 : decode cL_law 637 = .ok (.aload_n 2, 1) := by decide +kernel
theorem dL_law_638 : decode cL_law 638 = .ok (.invokevirtual 91, 3) := by decide +kernel
theorem dL_law_641 : decode cL_law 641 = .ok (.if_icmp .eq 391, 3) := by decide +kernel
theorem dL_law_644 : decode cL_law 644 = .ok (.iconst 0, 1) := by decide +kernel
theorem dL_law_645 : decode cL_law 645 = .ok (.ireturn, 1) := by decide +kernel
theorem dL_law_646 : decode cL_law 646 = .ok (.aload_n 1, 1) := by decide +kernel
theorem dL_law_647 : decode cL_law 647 = .ok (.invokevirtual 92, 3) := by decide +kernel
theorem dL_law_650 : decode cL_law 650 = .ok (.aload_n 2, 1) := by decide +kernel
theorem dL_law_651 : decode cL_law 651 = .ok (.invokevirtual 95, 3) := by decide +kernel
theorem dL_law_654 : decode cL_law 654 = .ok (.if_icmp .eq 378, 3) := by decide +kernel
theorem dL_law_657 : decode cL_law 657 = .ok (.iconst 0, 1) := by decide +kernel
theorem dL_law_658 : decode cL_law 658 = .ok (.ireturn, 1) := by decide +kernel
theorem dL_law_659 : decode cL_law 659 = .ok (.aload_n 1, 1) := by decide +kernel
theorem dL_law_660 : decode cL_law 660 = .ok (.aload_n 0, 1) := by decide +kernel
theorem dL_law_661 : decode cL_law 661 = .ok (.iload 4, 2) := by decide +kernel
theorem dL_law_663 : decode cL_law 663 = .ok (.iconst 1, 1) := by decide +kernel
theorem dL_law_664 : decode cL_law 664 = .ok (.iadd, 1) := by decide +kernel
theorem dL_law_665 : decode cL_law 665 = .ok (.iaload, 1) := by decide +kernel
theorem dL_law_666 : decode cL_law 666 = .ok (.aload_n 0, 1) := by decide +kernel
theorem dL_law_667 : decode cL_law 667 = .ok (.iload 4, 2) := by decide +kernel
theorem dL_law_669 : decode cL_law 669 = .ok (.iconst 2, 1) := by decide +kernel
theorem dL_law_670 : decode cL_law 670 = .ok (.iadd, 1) := by decide +kernel
theorem dL_law_671 : decode cL_law 671 = .ok (.iaload, 1) := by decide +kernel
theorem dL_law_672 : decode cL_law 672 = .ok (.aload_n 3, 1) := by decide +kernel
theorem dL_law_673 : decode cL_law 673 = .ok (.invokestatic 96, 3) := by decide +kernel
theorem dL_law_676 : decode cL_law 676 = .ok (.istore 5, 2) := by decide +kernel
theorem dL_law_678 : decode cL_law 678 = .ok (.aload_n 2, 1) := by decide +kernel
theorem dL_law_679 : decode cL_law 679 = .ok (.aload_n 0, 1) := by decide +kernel
theorem dL_law_680 : decode cL_law 680 = .ok (.iload 4, 2) := by decide +kernel
theorem dL_law_682 : decode cL_law 682 = .ok (.iconst 1, 1) := by decide +kernel
theorem dL_law_683 : decode cL_law 683 = .ok (.iadd, 1) := by decide +kernel
theorem dL_law_684 : decode cL_law 684 = .ok (.iaload, 1) := by decide +kernel
theorem dL_law_685 : decode cL_law 685 = .ok (.aload_n 0, 1) := by decide +kernel
theorem dL_law_686 : decode cL_law 686 = .ok (.iload 4, 2) := by decide +kernel
theorem dL_law_688 : decode cL_law 688 = .ok (.iconst 2, 1) := by decide +kernel
theorem dL_law_689 : decode cL_law 689 = .ok (.iadd, 1) := by decide +kernel
theorem dL_law_690 : decode cL_law 690 = .ok (.iaload, 1) := by decide +kernel
theorem dL_law_691 : decode cL_law 691 = .ok (.invokevirtual 98, 3) := by decide +kernel
theorem dL_law_694 : decode cL_law 694 = .ok (.istore 6, 2) := by decide +kernel
theorem dL_law_696 : decode cL_law 696 = .ok (.aload_n 2, 1) := by decide +kernel
theorem dL_law_697 : decode cL_law 697 = .ok (.invokevirtual 68, 3) := by decide +kernel
theorem dL_law_700 : decode cL_law 700 = .ok (.iload 5, 2) := by decide +kernel
theorem dL_law_702 : decode cL_law 702 = .ok (.if_icmp .eq 5, 3) := by decide +kernel
theorem dL_law_705 : decode cL_law 705 = .ok (.iconst 0, 1) := by decide +kernel
theorem dL_law_706 : decode cL_law 706 = .ok (.ireturn, 1) := by decide +kernel
theorem dL_law_707 : decode cL_law 707 = .ok (.iload 5, 2) := by decide +kernel
theorem dL_law_709 : decode cL_law 709 = .ok (.ifCond .ne 15, 3) := by decide +kernel
theorem dL_law_712 : decode cL_law 712 = .ok (.aload_n 3, 1) := by decide +kernel
theorem dL_law_713 : decode cL_law 713 = .ok (.iconst 0, 1) := by decide +kernel
theorem dL_law_714 : decode cL_law 714 = .ok (.laload, 1) := by decide +kernel
theorem dL_law_715 : decode cL_law 715 = .ok (.iload 6, 2) := by decide +kernel
theorem dL_law_717 : decode cL_law 717 = .ok (.i2l, 1) := by decide +kernel
theorem dL_law_718 : decode cL_law 718 = .ok (.lcmp, 1) := by decide +kernel
theorem dL_law_719 : decode cL_law 719 = .ok (.ifCond .eq 5, 3) := by decide +kernel
theorem dL_law_722 : decode cL_law 722 = .ok (.iconst 0, 1) := by decide +kernel
theorem dL_law_723 : decode cL_law 723 = .ok (.ireturn, 1) := by decide +kernel
theorem dL_law_724 : decode cL_law 724 = .ok (.goto 308, 3) := by decide +kernel
theorem dL_law_727 : decode cL_law 727 = .ok (.aload_n 1, 1) := by decide +kernel
theorem dL_law_728 : decode cL_law 728 = .ok (.aload_n 0, 1) := by decide +kernel
theorem dL_law_729 : decode cL_law 729 = .ok (.iload 4, 2) := by decide +kernel
theorem dL_law_731 : decode cL_law 731 = .ok (.iconst 1, 1) := by decide +kernel
theorem dL_law_732 : decode cL_law 732 = .ok (.iadd, 1) := by decide +kernel
theorem dL_law_733 : decode cL_law 733 = .ok (.iaload, 1) := by decide +kernel
theorem dL_law_734 : decode cL_law 734 = .ok (.aload_n 3, 1) := by decide +kernel
theorem dL_law_735 : decode cL_law 735 = .ok (.invokestatic 99, 3) := by decide +kernel
theorem dL_law_738 : decode cL_law 738 = .ok (.istore 5, 2) := by decide +kernel
theorem dL_law_740 : decode cL_law 740 = .ok (.aload_n 2, 1) := by decide +kernel
theorem dL_law_741 : decode cL_law 741 = .ok (.aload_n 0, 1) := by decide +kernel
theorem dL_law_742 : decode cL_law 742 = .ok (.iload 4, 2) := by decide +kernel
theorem dL_law_744 : decode cL_law 744 = .ok (.iconst 1, 1) := by decide +kernel
theorem dL_law_745 : decode cL_law 745 = .ok (.iadd, 1) := by decide +kernel
theorem dL_law_746 : decode cL_law 746 = .ok (.iaload, 1) := by decide +kernel
theorem dL_law_747 : decode cL_law 747 = .ok (.invokevirtual 102, 3) := by decide +kernel
theorem dL_law_750 : decode cL_law 750 = .ok (.istore 6, 2) := by decide +kernel
theorem dL_law_752 : decode cL_law 752 = .ok (.aload_n 2, 1) := by decide +kernel
theorem dL_law_753 : decode cL_law 753 = .ok (.invokevirtual 68, 3) := by decide +kernel
theorem dL_law_756 : decode cL_law 756 = .ok (.iload 5, 2) := by decide +kernel
theorem dL_law_758 : decode cL_law 758 = .ok (.if_icmp .eq 5, 3) := by decide +kernel
theorem dL_law_761 : decode cL_law 761 = .ok (.iconst 0, 1) := by decide +kernel
theorem dL_law_762 : decode cL_law 762 = .ok (.ireturn, 1) := by decide +kernel
theorem dL_law_763 : decode cL_law 763 = .ok (.iload 5, 2) := by decide +kernel
theorem dL_law_765 : decode cL_law 765 = .ok (.ifCond .ne 15, 3) := by decide +kernel
theorem dL_law_768 : decode cL_law 768 = .ok (.aload_n 3, 1) := by decide +kernel
theorem dL_law_769 : decode cL_law 769 = .ok (.iconst 0, 1) := by decide +kernel
theorem dL_law_770 : decode cL_law 770 = .ok (.laload, 1) := by decide +kernel
theorem dL_law_771 : decode cL_law 771 = .ok (.iload 6, 2) := by decide +kernel
theorem dL_law_773 : decode cL_law 773 = .ok (.i2l, 1) := by decide +kernel
theorem dL_law_774 : decode cL_law 774 = .ok (.lcmp, 1) := by decide +kernel
theorem dL_law_775 : decode cL_law 775 = .ok (.ifCond .eq 5, 3) := by decide +kernel
theorem dL_law_778 : decode cL_law 778 = .ok (.iconst 0, 1) := by decide +kernel
theorem dL_law_779 : decode cL_law 779 = .ok (.ireturn, 1) := by decide +kernel
theorem dL_law_780 : decode cL_law 780 = .ok (.goto 252, 3) := by decide +kernel
theorem dL_law_783 : decode cL_law 783 = .ok (.aload_n 1, 1) := by decide +kernel
theorem dL_law_784 : decode cL_law 784 = .ok (.aload_n 3, 1) := by decide +kernel
theorem dL_law_785 : decode cL_law 785 = .ok (.invokestatic 103, 3) := by decide +kernel
theorem dL_law_788 : decode cL_law 788 = .ok (.istore 5, 2) := by decide +kernel
theorem dL_law_790 : decode cL_law 790 = .ok (.aload_n 2, 1) := by decide +kernel
theorem dL_law_791 : decode cL_law 791 = .ok (.invokevirtual 106, 3) := by decide +kernel
theorem dL_law_794 : decode cL_law 794 = .ok (.istore 6, 2) := by decide +kernel
theorem dL_law_796 : decode cL_law 796 = .ok (.aload_n 2, 1) := by decide +kernel
theorem dL_law_797 : decode cL_law 797 = .ok (.invokevirtual 68, 3) := by decide +kernel
theorem dL_law_800 : decode cL_law 800 = .ok (.iload 5, 2) := by decide +kernel
theorem dL_law_802 : decode cL_law 802 = .ok (.if_icmp .eq 5, 3) := by decide +kernel
theorem dL_law_805 : decode cL_law 805 = .ok (.iconst 0, 1) := by decide +kernel
theorem dL_law_806 : decode cL_law 806 = .ok (.ireturn, 1) := by decide +kernel
theorem dL_law_807 : decode cL_law 807 = .ok (.iload 5, 2) := by decide +kernel
theorem dL_law_809 : decode cL_law 809 = .ok (.ifCond .ne 15, 3) := by decide +kernel
theorem dL_law_812 : decode cL_law 812 = .ok (.aload_n 3, 1) := by decide +kernel
theorem dL_law_813 : decode cL_law 813 = .ok (.iconst 0, 1) := by decide +kernel
theorem dL_law_814 : decode cL_law 814 = .ok (.laload, 1) := by decide +kernel
theorem dL_law_815 : decode cL_law 815 = .ok (.iload 6, 2) := by decide +kernel
theorem dL_law_817 : decode cL_law 817 = .ok (.i2l, 1) := by decide +kernel
theorem dL_law_818 : decode cL_law 818 = .ok (.lcmp, 1) := by decide +kernel
theorem dL_law_819 : decode cL_law 819 = .ok (.ifCond .eq 5, 3) := by decide +kernel
theorem dL_law_822 : decode cL_law 822 = .ok (.iconst 0, 1) := by decide +kernel
theorem dL_law_823 : decode cL_law 823 = .ok (.ireturn, 1) := by decide +kernel
theorem dL_law_824 : decode cL_law 824 = .ok (.goto 208, 3) := by decide +kernel
theorem dL_law_827 : decode cL_law 827 = .ok (.aload_n 1, 1) := by decide +kernel
theorem dL_law_828 : decode cL_law 828 = .ok (.aload_n 0, 1) := by decide +kernel
theorem dL_law_829 : decode cL_law 829 = .ok (.iload 4, 2) := by decide +kernel
theorem dL_law_831 : decode cL_law 831 = .ok (.iconst 1, 1) := by decide +kernel
theorem dL_law_832 : decode cL_law 832 = .ok (.iadd, 1) := by decide +kernel
theorem dL_law_833 : decode cL_law 833 = .ok (.iaload, 1) := by decide +kernel
theorem dL_law_834 : decode cL_law 834 = .ok (.aload_n 3, 1) := by decide +kernel
theorem dL_law_835 : decode cL_law 835 = .ok (.invokestatic 107, 3) := by decide +kernel
theorem dL_law_838 : decode cL_law 838 = .ok (.istore 5, 2) := by decide +kernel
theorem dL_law_840 : decode cL_law 840 = .ok (.aload_n 2, 1) := by decide +kernel
theorem dL_law_841 : decode cL_law 841 = .ok (.aload_n 0, 1) := by decide +kernel
theorem dL_law_842 : decode cL_law 842 = .ok (.iload 4, 2) := by decide +kernel
theorem dL_law_844 : decode cL_law 844 = .ok (.iconst 1, 1) := by decide +kernel
theorem dL_law_845 : decode cL_law 845 = .ok (.iadd, 1) := by decide +kernel
theorem dL_law_846 : decode cL_law 846 = .ok (.iaload, 1) := by decide +kernel
theorem dL_law_847 : decode cL_law 847 = .ok (.invokevirtual 109, 3) := by decide +kernel
theorem dL_law_850 : decode cL_law 850 = .ok (.istore 6, 2) := by decide +kernel
theorem dL_law_852 : decode cL_law 852 = .ok (.aload_n 2, 1) := by decide +kernel
theorem dL_law_853 : decode cL_law 853 = .ok (.invokevirtual 68, 3) := by decide +kernel
theorem dL_law_856 : decode cL_law 856 = .ok (.iload 5, 2) := by decide +kernel
theorem dL_law_858 : decode cL_law 858 = .ok (.if_icmp .eq 5, 3) := by decide +kernel
theorem dL_law_861 : decode cL_law 861 = .ok (.iconst 0, 1) := by decide +kernel
theorem dL_law_862 : decode cL_law 862 = .ok (.ireturn, 1) := by decide +kernel
theorem dL_law_863 : decode cL_law 863 = .ok (.iload 5, 2) := by decide +kernel
theorem dL_law_865 : decode cL_law 865 = .ok (.ifCond .ne 15, 3) := by decide +kernel
theorem dL_law_868 : decode cL_law 868 = .ok (.aload_n 3, 1) := by decide +kernel
theorem dL_law_869 : decode cL_law 869 = .ok (.iconst 0, 1) := by decide +kernel
theorem dL_law_870 : decode cL_law 870 = .ok (.laload, 1) := by decide +kernel
theorem dL_law_871 : decode cL_law 871 = .ok (.iload 6, 2) := by decide +kernel
theorem dL_law_873 : decode cL_law 873 = .ok (.i2l, 1) := by decide +kernel
theorem dL_law_874 : decode cL_law 874 = .ok (.lcmp, 1) := by decide +kernel
theorem dL_law_875 : decode cL_law 875 = .ok (.ifCond .eq 5, 3) := by decide +kernel
theorem dL_law_878 : decode cL_law 878 = .ok (.iconst 0, 1) := by decide +kernel
theorem dL_law_879 : decode cL_law 879 = .ok (.ireturn, 1) := by decide +kernel
theorem dL_law_880 : decode cL_law 880 = .ok (.goto 152, 3) := by decide +kernel
theorem dL_law_883 : decode cL_law 883 = .ok (.aload_n 1, 1) := by decide +kernel
theorem dL_law_884 : decode cL_law 884 = .ok (.aload_n 0, 1) := by decide +kernel
theorem dL_law_885 : decode cL_law 885 = .ok (.iload 4, 2) := by decide +kernel
theorem dL_law_887 : decode cL_law 887 = .ok (.iconst 1, 1) := by decide +kernel
theorem dL_law_888 : decode cL_law 888 = .ok (.iadd, 1) := by decide +kernel
theorem dL_law_889 : decode cL_law 889 = .ok (.iaload, 1) := by decide +kernel
theorem dL_law_890 : decode cL_law 890 = .ok (.aload_n 0, 1) := by decide +kernel
theorem dL_law_891 : decode cL_law 891 = .ok (.iload 4, 2) := by decide +kernel
theorem dL_law_893 : decode cL_law 893 = .ok (.iconst 2, 1) := by decide +kernel
theorem dL_law_894 : decode cL_law 894 = .ok (.iadd, 1) := by decide +kernel
theorem dL_law_895 : decode cL_law 895 = .ok (.iaload, 1) := by decide +kernel
theorem dL_law_896 : decode cL_law 896 = .ok (.aload_n 3, 1) := by decide +kernel
theorem dL_law_897 : decode cL_law 897 = .ok (.invokestatic 110, 3) := by decide +kernel
theorem dL_law_900 : decode cL_law 900 = .ok (.istore 5, 2) := by decide +kernel
theorem dL_law_902 : decode cL_law 902 = .ok (.aload_n 2, 1) := by decide +kernel
theorem dL_law_903 : decode cL_law 903 = .ok (.aload_n 0, 1) := by decide +kernel
theorem dL_law_904 : decode cL_law 904 = .ok (.iload 4, 2) := by decide +kernel
theorem dL_law_906 : decode cL_law 906 = .ok (.iconst 1, 1) := by decide +kernel
theorem dL_law_907 : decode cL_law 907 = .ok (.iadd, 1) := by decide +kernel
theorem dL_law_908 : decode cL_law 908 = .ok (.iaload, 1) := by decide +kernel
theorem dL_law_909 : decode cL_law 909 = .ok (.aload_n 0, 1) := by decide +kernel
theorem dL_law_910 : decode cL_law 910 = .ok (.iload 4, 2) := by decide +kernel
theorem dL_law_912 : decode cL_law 912 = .ok (.iconst 2, 1) := by decide +kernel
theorem dL_law_913 : decode cL_law 913 = .ok (.iadd, 1) := by decide +kernel
theorem dL_law_914 : decode cL_law 914 = .ok (.iaload, 1) := by decide +kernel
theorem dL_law_915 : decode cL_law 915 = .ok (.invokevirtual 112, 3) := by decide +kernel
theorem dL_law_918 : decode cL_law 918 = .ok (.istore 6, 2) := by decide +kernel
theorem dL_law_920 : decode cL_law 920 = .ok (.aload_n 2, 1) := by decide +kernel
theorem dL_law_921 : decode cL_law 921 = .ok (.invokevirtual 68, 3) := by decide +kernel
theorem dL_law_924 : decode cL_law 924 = .ok (.iload 5, 2) := by decide +kernel
theorem dL_law_926 : decode cL_law 926 = .ok (.if_icmp .eq 5, 3) := by decide +kernel
theorem dL_law_929 : decode cL_law 929 = .ok (.iconst 0, 1) := by decide +kernel
theorem dL_law_930 : decode cL_law 930 = .ok (.ireturn, 1) := by decide +kernel
theorem dL_law_931 : decode cL_law 931 = .ok (.iload 5, 2) := by decide +kernel
theorem dL_law_933 : decode cL_law 933 = .ok (.ifCond .ne 15, 3) := by decide +kernel
theorem dL_law_936 : decode cL_law 936 = .ok (.aload_n 3, 1) := by decide +kernel
theorem dL_law_937 : decode cL_law 937 = .ok (.iconst 0, 1) := by decide +kernel
theorem dL_law_938 : decode cL_law 938 = .ok (.laload, 1) := by decide +kernel
theorem dL_law_939 : decode cL_law 939 = .ok (.iload 6, 2) := by decide +kernel
theorem dL_law_941 : decode cL_law 941 = .ok (.i2l, 1) := by decide +kernel
theorem dL_law_942 : decode cL_law 942 = .ok (.lcmp, 1) := by decide +kernel
theorem dL_law_943 : decode cL_law 943 = .ok (.ifCond .eq 5, 3) := by decide +kernel
theorem dL_law_946 : decode cL_law 946 = .ok (.iconst 0, 1) := by decide +kernel
theorem dL_law_947 : decode cL_law 947 = .ok (.ireturn, 1) := by decide +kernel
theorem dL_law_948 : decode cL_law 948 = .ok (.goto 84, 3) := by decide +kernel
theorem dL_law_951 : decode cL_law 951 = .ok (.aload_n 1, 1) := by decide +kernel
theorem dL_law_952 : decode cL_law 952 = .ok (.invokevirtual 113, 3) := by decide +kernel
theorem dL_law_955 : decode cL_law 955 = .ok (.aload_n 2, 1) := by decide +kernel
theorem dL_law_956 : decode cL_law 956 = .ok (.invokevirtual 117, 3) := by decide +kernel
theorem dL_law_959 : decode cL_law 959 = .ok (.if_icmp .eq 73, 3) := by decide +kernel
theorem dL_law_962 : decode cL_law 962 = .ok (.iconst 0, 1) := by decide +kernel
theorem dL_law_963 : decode cL_law 963 = .ok (.ireturn, 1) := by decide +kernel
theorem dL_law_964 : decode cL_law 964 = .ok (.aload_n 1, 1) := by decide +kernel
theorem dL_law_965 : decode cL_law 965 = .ok (.aload_n 0, 1) := by decide +kernel
theorem dL_law_966 : decode cL_law 966 = .ok (.iload 4, 2) := by decide +kernel
theorem dL_law_968 : decode cL_law 968 = .ok (.iconst 1, 1) := by decide +kernel
theorem dL_law_969 : decode cL_law 969 = .ok (.iadd, 1) := by decide +kernel
theorem dL_law_970 : decode cL_law 970 = .ok (.iaload, 1) := by decide +kernel
theorem dL_law_971 : decode cL_law 971 = .ok (.aload_n 0, 1) := by decide +kernel
theorem dL_law_972 : decode cL_law 972 = .ok (.iload 4, 2) := by decide +kernel
theorem dL_law_974 : decode cL_law 974 = .ok (.iconst 2, 1) := by decide +kernel
theorem dL_law_975 : decode cL_law 975 = .ok (.iadd, 1) := by decide +kernel
theorem dL_law_976 : decode cL_law 976 = .ok (.iaload, 1) := by decide +kernel
theorem dL_law_977 : decode cL_law 977 = .ok (.aload_n 3, 1) := by decide +kernel
theorem dL_law_978 : decode cL_law 978 = .ok (.invokestatic 118, 3) := by decide +kernel
theorem dL_law_981 : decode cL_law 981 = .ok (.istore 5, 2) := by decide +kernel
theorem dL_law_983 : decode cL_law 983 = .ok (.aload_n 2, 1) := by decide +kernel
theorem dL_law_984 : decode cL_law 984 = .ok (.aload_n 0, 1) := by decide +kernel
theorem dL_law_985 : decode cL_law 985 = .ok (.iload 4, 2) := by decide +kernel
theorem dL_law_987 : decode cL_law 987 = .ok (.iconst 1, 1) := by decide +kernel
theorem dL_law_988 : decode cL_law 988 = .ok (.iadd, 1) := by decide +kernel
theorem dL_law_989 : decode cL_law 989 = .ok (.iaload, 1) := by decide +kernel
theorem dL_law_990 : decode cL_law 990 = .ok (.aload_n 0, 1) := by decide +kernel
theorem dL_law_991 : decode cL_law 991 = .ok (.iload 4, 2) := by decide +kernel
theorem dL_law_993 : decode cL_law 993 = .ok (.iconst 2, 1) := by decide +kernel
theorem dL_law_994 : decode cL_law 994 = .ok (.iadd, 1) := by decide +kernel
theorem dL_law_995 : decode cL_law 995 = .ok (.iaload, 1) := by decide +kernel
theorem dL_law_996 : decode cL_law 996 = .ok (.invokevirtual 120, 3) := by decide +kernel
theorem dL_law_999 : decode cL_law 999 = .ok (.istore 6, 2) := by decide +kernel
theorem dL_law_1001 : decode cL_law 1001 = .ok (.aload_n 2, 1) := by decide +kernel
theorem dL_law_1002 : decode cL_law 1002 = .ok (.invokevirtual 68, 3) := by decide +kernel
theorem dL_law_1005 : decode cL_law 1005 = .ok (.iload 5, 2) := by decide +kernel
theorem dL_law_1007 : decode cL_law 1007 = .ok (.if_icmp .eq 5, 3) := by decide +kernel
theorem dL_law_1010 : decode cL_law 1010 = .ok (.iconst 0, 1) := by decide +kernel
theorem dL_law_1011 : decode cL_law 1011 = .ok (.ireturn, 1) := by decide +kernel
theorem dL_law_1012 : decode cL_law 1012 = .ok (.iload 5, 2) := by decide +kernel
theorem dL_law_1014 : decode cL_law 1014 = .ok (.ifCond .ne 15, 3) := by decide +kernel
theorem dL_law_1017 : decode cL_law 1017 = .ok (.aload_n 3, 1) := by decide +kernel
theorem dL_law_1018 : decode cL_law 1018 = .ok (.iconst 0, 1) := by decide +kernel
theorem dL_law_1019 : decode cL_law 1019 = .ok (.laload, 1) := by decide +kernel
theorem dL_law_1020 : decode cL_law 1020 = .ok (.iload 6, 2) := by decide +kernel
theorem dL_law_1022 : decode cL_law 1022 = .ok (.i2l, 1) := by decide +kernel
theorem dL_law_1023 : decode cL_law 1023 = .ok (.lcmp, 1) := by decide +kernel
theorem dL_law_1024 : decode cL_law 1024 = .ok (.ifCond .eq 5, 3) := by decide +kernel
theorem dL_law_1027 : decode cL_law 1027 = .ok (.iconst 0, 1) := by decide +kernel
theorem dL_law_1028 : decode cL_law 1028 = .ok (.ireturn, 1) := by decide +kernel
theorem dL_law_1029 : decode cL_law 1029 = .ok (.goto 3, 3) := by decide +kernel
theorem dL_law_1032 : decode cL_law 1032 = .ok (.iinc 4 7, 3) := by decide +kernel
theorem dL_law_1035 : decode cL_law 1035 = .ok (.goto (-1012), 3) := by decide +kernel
theorem dL_law_1038 : decode cL_law 1038 = .ok (.iconst 1, 1) := by decide +kernel
theorem dL_law_1039 : decode cL_law 1039 = .ok (.ireturn, 1) := by decide +kernel
end
section
/-! the words of the tables, each by its place; TW: those that a later state keeps -/
def tw_ok (w : Cond) : Bool := goodWord w || (w.onTables && w.keepsFace)
def TW : List Cond := lw_tbl.filter tw_ok
theorem tw_of {w : Cond} (h : w ∈ lw_tbl) (g : tw_ok w = true) : w ∈ TW := List.mem_filter.mpr ⟨h, g⟩
theorem tw_0 {w : Cond} (h : w ∈ k2_sels lw_privs) (g : tw_ok w = true) : w ∈ TW := tw_of (List.mem_append_left _ h) g
theorem tw_1 {w : Cond} (h : w ∈ tables_1_1) (g : tw_ok w = true) : w ∈ TW := tw_of (List.mem_append_right _ (List.mem_append_left _ h)) g
theorem tw_2 {w : Cond} (h : w ∈ tables_1_2) (g : tw_ok w = true) : w ∈ TW := tw_of (List.mem_append_right _ (List.mem_append_right _ (List.mem_append_left _ h))) g
theorem tw_3 {w : Cond} (h : w ∈ tables_1_3) (g : tw_ok w = true) : w ∈ TW := tw_of (List.mem_append_right _ (List.mem_append_right _ (List.mem_append_right _ (List.mem_append_left _ h)))) g
theorem tw_4 {w : Cond} (h : w ∈ tables_1_4) (g : tw_ok w = true) : w ∈ TW := tw_of (List.mem_append_right _ (List.mem_append_right _ (List.mem_append_right _ (List.mem_append_right _ (List.mem_append_left _ h))))) g
theorem tw_5 {w : Cond} (h : w ∈ tables_1_5) (g : tw_ok w = true) : w ∈ TW := tw_of (List.mem_append_right _ (List.mem_append_right _ (List.mem_append_right _ (List.mem_append_right _ (List.mem_append_right _ (List.mem_append_left _ h)))))) g
theorem tw_6 {w : Cond} (h : w ∈ tables_1_6) (g : tw_ok w = true) : w ∈ TW := tw_of (List.mem_append_right _ (List.mem_append_right _ (List.mem_append_right _ (List.mem_append_right _ (List.mem_append_right _ (List.mem_append_right _ h)))))) g
theorem q1_0 : (.initialized "SpringleafLaw" : Cond) ∈ TW := tw_1 (List.mem_of_getElem? (i := 0) (by decide +kernel)) (by decide +kernel)
theorem q1_1 : (.initialized "Springleaf" : Cond) ∈ TW := tw_1 (List.mem_of_getElem? (i := 1) (by decide +kernel)) (by decide +kernel)
theorem q1_2 : (.initialized "java/util/AbstractCollection" : Cond) ∈ TW := tw_1 (List.mem_of_getElem? (i := 2) (by decide +kernel)) (by decide +kernel)
theorem q1_3 : (.initialized "java/util/AbstractList" : Cond) ∈ TW := tw_1 (List.mem_of_getElem? (i := 3) (by decide +kernel)) (by decide +kernel)
theorem q1_4 : (.initialized "java/util/ArrayList" : Cond) ∈ TW := tw_1 (List.mem_of_getElem? (i := 4) (by decide +kernel)) (by decide +kernel)
theorem q1_5 : (.initialized "java/lang/AbstractStringBuilder" : Cond) ∈ TW := tw_1 (List.mem_of_getElem? (i := 5) (by decide +kernel)) (by decide +kernel)
theorem q1_6 : (.initialized "java/lang/StringBuilder" : Cond) ∈ TW := tw_1 (List.mem_of_getElem? (i := 6) (by decide +kernel)) (by decide +kernel)
theorem q1_7 : (.initialized "java/lang/String" : Cond) ∈ TW := tw_1 (List.mem_of_getElem? (i := 7) (by decide +kernel)) (by decide +kernel)
theorem q1_8 : (.initialized "java/lang/StringUTF16" : Cond) ∈ TW := tw_1 (List.mem_of_getElem? (i := 8) (by decide +kernel)) (by decide +kernel)
theorem q1_9 : (.initialized "Springleaf$Fold" : Cond) ∈ TW := tw_1 (List.mem_of_getElem? (i := 9) (by decide +kernel)) (by decide +kernel)
theorem q1_10 : (.initialized "jdk/internal/util/ArraysSupport" : Cond) ∈ TW := tw_1 (List.mem_of_getElem? (i := 10) (by decide +kernel)) (by decide +kernel)
theorem q1_11 : (.initialized "java/lang/Math" : Cond) ∈ TW := tw_1 (List.mem_of_getElem? (i := 11) (by decide +kernel)) (by decide +kernel)
theorem q1_12 : (.initialized "java/util/Arrays" : Cond) ∈ TW := tw_1 (List.mem_of_getElem? (i := 12) (by decide +kernel)) (by decide +kernel)
theorem q1_13 : (.initialized "java/lang/System" : Cond) ∈ TW := tw_1 (List.mem_of_getElem? (i := 13) (by decide +kernel)) (by decide +kernel)
theorem q1_14 : (.initialized "SpringleafModel" : Cond) ∈ TW := tw_1 (List.mem_of_getElem? (i := 14) (by decide +kernel)) (by decide +kernel)
theorem q1_15 : (.initialized "java/lang/Throwable" : Cond) ∈ TW := tw_1 (List.mem_of_getElem? (i := 15) (by decide +kernel)) (by decide +kernel)
theorem q1_16 : (.initialized "java/lang/Exception" : Cond) ∈ TW := tw_1 (List.mem_of_getElem? (i := 16) (by decide +kernel)) (by decide +kernel)
theorem q1_17 : (.initialized "java/lang/RuntimeException" : Cond) ∈ TW := tw_1 (List.mem_of_getElem? (i := 17) (by decide +kernel)) (by decide +kernel)
theorem q1_18 : (.initialized "java/lang/IndexOutOfBoundsException" : Cond) ∈ TW := tw_1 (List.mem_of_getElem? (i := 18) (by decide +kernel)) (by decide +kernel)
theorem q1_19 : (.initialized "java/lang/IllegalArgumentException" : Cond) ∈ TW := tw_1 (List.mem_of_getElem? (i := 19) (by decide +kernel)) (by decide +kernel)
theorem q1_20 : (.initialized "java/util/Objects" : Cond) ∈ TW := tw_1 (List.mem_of_getElem? (i := 20) (by decide +kernel)) (by decide +kernel)
theorem q1_21 : (.initialized "jdk/internal/util/Preconditions" : Cond) ∈ TW := tw_1 (List.mem_of_getElem? (i := 21) (by decide +kernel)) (by decide +kernel)
theorem q1_22 : (.initialized "java/lang/IllegalStateException" : Cond) ∈ TW := tw_1 (List.mem_of_getElem? (i := 22) (by decide +kernel)) (by decide +kernel)
theorem q1_23 : (.initialized "Springleaf$Part" : Cond) ∈ TW := tw_1 (List.mem_of_getElem? (i := 23) (by decide +kernel)) (by decide +kernel)
theorem q1_24 : (.initialized "java/lang/StringIndexOutOfBoundsException" : Cond) ∈ TW := tw_1 (List.mem_of_getElem? (i := 24) (by decide +kernel)) (by decide +kernel)
theorem q1_25 : (.initialized "java/lang/StringLatin1" : Cond) ∈ TW := tw_1 (List.mem_of_getElem? (i := 25) (by decide +kernel)) (by decide +kernel)
theorem q1_26 : (.initialized "java/lang/Number" : Cond) ∈ TW := tw_1 (List.mem_of_getElem? (i := 26) (by decide +kernel)) (by decide +kernel)
theorem q1_27 : (.initialized "java/lang/Integer" : Cond) ∈ TW := tw_1 (List.mem_of_getElem? (i := 27) (by decide +kernel)) (by decide +kernel)
theorem q1_28 : (.initialized "java/lang/ArrayIndexOutOfBoundsException" : Cond) ∈ TW := tw_1 (List.mem_of_getElem? (i := 28) (by decide +kernel)) (by decide +kernel)
theorem q1_29 : (.classLink "SpringleafLaw" 8 "Springleaf" : Cond) ∈ TW := tw_1 (List.mem_of_getElem? (i := 29) (by decide +kernel)) (by decide +kernel)
theorem q1_30 : (.instantiable "Springleaf" 5 : Cond) ∈ TW := tw_1 (List.mem_of_getElem? (i := 30) (by decide +kernel)) (by decide +kernel)
theorem q1_31 : (.methodLink "SpringleafLaw" 58 ⟨"Springleaf","<init>","()V"⟩ : Cond) ∈ TW := tw_1 (List.mem_of_getElem? (i := 31) (by decide +kernel)) (by decide +kernel)
theorem q1_32 : (.instanceMethod ⟨"Springleaf","<init>","()V"⟩ : Cond) ∈ TW := tw_1 (List.mem_of_getElem? (i := 32) (by decide +kernel)) (by decide +kernel)
theorem q1_33 : (.code ⟨"Springleaf","<init>","()V"⟩ prog_1_method_1_code 1 none : Cond) ∈ TW := tw_1 (List.mem_of_getElem? (i := 33) (by decide +kernel)) (by decide +kernel)
theorem q1_34 : (.methodLink "Springleaf" 1 ⟨"java/lang/Object","<init>","()V"⟩ : Cond) ∈ TW := tw_1 (List.mem_of_getElem? (i := 34) (by decide +kernel)) (by decide +kernel)
theorem q1_35 : (.instanceMethod ⟨"java/lang/Object","<init>","()V"⟩ : Cond) ∈ TW := tw_1 (List.mem_of_getElem? (i := 35) (by decide +kernel)) (by decide +kernel)
theorem q1_36 : (.code ⟨"java/lang/Object","<init>","()V"⟩ object_method_1_code 1 none : Cond) ∈ TW := tw_1 (List.mem_of_getElem? (i := 36) (by decide +kernel)) (by decide +kernel)
theorem q1_37 : (.classLink "Springleaf" 7 "java/util/ArrayList" : Cond) ∈ TW := tw_1 (List.mem_of_getElem? (i := 37) (by decide +kernel)) (by decide +kernel)
theorem q1_38 : (.instantiable "java/util/ArrayList" 3 : Cond) ∈ TW := tw_1 (List.mem_of_getElem? (i := 38) (by decide +kernel)) (by decide +kernel)
theorem q1_39 : (.methodLink "Springleaf" 9 ⟨"java/util/ArrayList","<init>","()V"⟩ : Cond) ∈ TW := tw_1 (List.mem_of_getElem? (i := 39) (by decide +kernel)) (by decide +kernel)
theorem q1_40 : (.instanceMethod ⟨"java/util/ArrayList","<init>","()V"⟩ : Cond) ∈ TW := tw_1 (List.mem_of_getElem? (i := 40) (by decide +kernel)) (by decide +kernel)
theorem q1_41 : (.code ⟨"java/util/ArrayList","<init>","()V"⟩ prog_33_method_2_code 1 none : Cond) ∈ TW := tw_1 (List.mem_of_getElem? (i := 41) (by decide +kernel)) (by decide +kernel)
theorem q1_42 : (.methodLink "java/util/ArrayList" 1 ⟨"java/util/AbstractList","<init>","()V"⟩ : Cond) ∈ TW := tw_1 (List.mem_of_getElem? (i := 42) (by decide +kernel)) (by decide +kernel)
theorem q1_43 : (.instanceMethod ⟨"java/util/AbstractList","<init>","()V"⟩ : Cond) ∈ TW := tw_1 (List.mem_of_getElem? (i := 43) (by decide +kernel)) (by decide +kernel)
theorem q1_44 : (.code ⟨"java/util/AbstractList","<init>","()V"⟩ prog_32_method_1_code 1 none : Cond) ∈ TW := tw_1 (List.mem_of_getElem? (i := 44) (by decide +kernel)) (by decide +kernel)
theorem q1_45 : (.methodLink "java/util/AbstractList" 1 ⟨"java/util/AbstractCollection","<init>","()V"⟩ : Cond) ∈ TW := tw_1 (List.mem_of_getElem? (i := 45) (by decide +kernel)) (by decide +kernel)
theorem q1_46 : (.instanceMethod ⟨"java/util/AbstractCollection","<init>","()V"⟩ : Cond) ∈ TW := tw_1 (List.mem_of_getElem? (i := 46) (by decide +kernel)) (by decide +kernel)
theorem q1_47 : (.code ⟨"java/util/AbstractCollection","<init>","()V"⟩ prog_31_method_1_code 1 none : Cond) ∈ TW := tw_1 (List.mem_of_getElem? (i := 47) (by decide +kernel)) (by decide +kernel)
theorem q1_48 : (.methodLink "java/util/AbstractCollection" 1 ⟨"java/lang/Object","<init>","()V"⟩ : Cond) ∈ TW := tw_1 (List.mem_of_getElem? (i := 48) (by decide +kernel)) (by decide +kernel)
theorem q1_49 : (.fieldLink "java/util/ArrayList" 39 "java/util/ArrayList" "DEFAULTCAPACITY_EMPTY_ELEMENTDATA" "[Ljava/lang/Object;" : Cond) ∈ TW := tw_1 (List.mem_of_getElem? (i := 49) (by decide +kernel)) (by decide +kernel)
theorem q1_51 : (.fieldLink "java/util/ArrayList" 9 "java/util/ArrayList" "elementData" "[Ljava/lang/Object;" : Cond) ∈ TW := tw_1 (List.mem_of_getElem? (i := 51) (by decide +kernel)) (by decide +kernel)
theorem q1_52 : (.fieldLink "java/util/ArrayList" 48 "java/util/ArrayList" "size" "I" : Cond) ∈ TW := tw_1 (List.mem_of_getElem? (i := 52) (by decide +kernel)) (by decide +kernel)
theorem q1_53 : (.fieldLink "java/util/AbstractList" 7 "java/util/AbstractList" "modCount" "I" : Cond) ∈ TW := tw_1 (List.mem_of_getElem? (i := 53) (by decide +kernel)) (by decide +kernel)
theorem q1_54 : (.fieldLink "java/util/ArrayList" 63 "java/util/ArrayList" "modCount" "I" : Cond) ∈ TW := tw_1 (List.mem_of_getElem? (i := 54) (by decide +kernel)) (by decide +kernel)
theorem q1_55 : (.sameField "java/util/ArrayList" "java/util/AbstractList" "modCount" "I" : Cond) ∈ TW := tw_1 (List.mem_of_getElem? (i := 55) (by decide +kernel)) (by decide +kernel)
theorem q1_56 : (.lays "java/util/ArrayList" "java/util/ArrayList" "elementData" "[Ljava/lang/Object;" : Cond) ∈ TW := tw_1 (List.mem_of_getElem? (i := 56) (by decide +kernel)) (by decide +kernel)
theorem q1_57 : (.soleField "java/util/ArrayList" "elementData" : Cond) ∈ TW := tw_1 (List.mem_of_getElem? (i := 57) (by decide +kernel)) (by decide +kernel)
theorem q1_58 : (.lays "java/util/ArrayList" "java/util/ArrayList" "size" "I" : Cond) ∈ TW := tw_1 (List.mem_of_getElem? (i := 58) (by decide +kernel)) (by decide +kernel)
theorem q1_59 : (.soleField "java/util/ArrayList" "size" : Cond) ∈ TW := tw_1 (List.mem_of_getElem? (i := 59) (by decide +kernel)) (by decide +kernel)
theorem q1_60 : (.lays "java/util/ArrayList" "java/util/AbstractList" "modCount" "I" : Cond) ∈ TW := tw_1 (List.mem_of_getElem? (i := 60) (by decide +kernel)) (by decide +kernel)
theorem q1_61 : (.soleField "java/util/AbstractList" "modCount" : Cond) ∈ TW := tw_1 (List.mem_of_getElem? (i := 61) (by decide +kernel)) (by decide +kernel)
theorem q1_62 : (.superclass "java/util/ArrayList" "java/util/AbstractList" : Cond) ∈ TW := tw_1 (List.mem_of_getElem? (i := 62) (by decide +kernel)) (by decide +kernel)
theorem q1_63 : (.classLink "Springleaf" 19 "java/lang/StringBuilder" : Cond) ∈ TW := tw_1 (List.mem_of_getElem? (i := 63) (by decide +kernel)) (by decide +kernel)
theorem q1_64 : (.instantiable "java/lang/StringBuilder" 4 : Cond) ∈ TW := tw_1 (List.mem_of_getElem? (i := 64) (by decide +kernel)) (by decide +kernel)
theorem q1_65 : (.methodLink "Springleaf" 21 ⟨"java/lang/StringBuilder","<init>","()V"⟩ : Cond) ∈ TW := tw_1 (List.mem_of_getElem? (i := 65) (by decide +kernel)) (by decide +kernel)
theorem q1_66 : (.instanceMethod ⟨"java/lang/StringBuilder","<init>","()V"⟩ : Cond) ∈ TW := tw_1 (List.mem_of_getElem? (i := 66) (by decide +kernel)) (by decide +kernel)
theorem q1_67 : (.code ⟨"java/lang/StringBuilder","<init>","()V"⟩ prog_23_method_1_code 1 none : Cond) ∈ TW := tw_1 (List.mem_of_getElem? (i := 67) (by decide +kernel)) (by decide +kernel)
theorem q1_68 : (.methodLink "java/lang/StringBuilder" 1 ⟨"java/lang/AbstractStringBuilder","<init>","(I)V"⟩ : Cond) ∈ TW := tw_1 (List.mem_of_getElem? (i := 68) (by decide +kernel)) (by decide +kernel)
theorem q1_69 : (.instanceMethod ⟨"java/lang/AbstractStringBuilder","<init>","(I)V"⟩ : Cond) ∈ TW := tw_1 (List.mem_of_getElem? (i := 69) (by decide +kernel)) (by decide +kernel)
theorem q1_70 : (.code ⟨"java/lang/AbstractStringBuilder","<init>","(I)V"⟩ prog_7_method_2_code 2 none : Cond) ∈ TW := tw_1 (List.mem_of_getElem? (i := 70) (by decide +kernel)) (by decide +kernel)
theorem q1_71 : (.methodLink "java/lang/AbstractStringBuilder" 3 ⟨"java/lang/Object","<init>","()V"⟩ : Cond) ∈ TW := tw_1 (List.mem_of_getElem? (i := 71) (by decide +kernel)) (by decide +kernel)
theorem q1_72 : (.fieldLink "java/lang/AbstractStringBuilder" 18 "java/lang/String" "COMPACT_STRINGS" "Z" : Cond) ∈ TW := tw_1 (List.mem_of_getElem? (i := 72) (by decide +kernel)) (by decide +kernel)
theorem q1_74 : (.methodLink "java/lang/AbstractStringBuilder" 26 ⟨"java/lang/StringUTF16","newBytesFor","(I)[B"⟩ : Cond) ∈ TW := tw_1 (List.mem_of_getElem? (i := 74) (by decide +kernel)) (by decide +kernel)
theorem q1_75 : (.static ⟨"java/lang/StringUTF16","newBytesFor","(I)[B"⟩ : Cond) ∈ TW := tw_1 (List.mem_of_getElem? (i := 75) (by decide +kernel)) (by decide +kernel)
theorem q1_76 : (.code ⟨"java/lang/StringUTF16","newBytesFor","(I)[B"⟩ prog_26_method_2_code 1 (some (.array .byte)) : Cond) ∈ TW := tw_1 (List.mem_of_getElem? (i := 76) (by decide +kernel)) (by decide +kernel)
theorem q1_77 : (.methodLink "java/lang/StringUTF16" 11 ⟨"java/lang/StringUTF16","newBytesLength","(I)I"⟩ : Cond) ∈ TW := tw_1 (List.mem_of_getElem? (i := 77) (by decide +kernel)) (by decide +kernel)
theorem q1_78 : (.static ⟨"java/lang/StringUTF16","newBytesLength","(I)I"⟩ : Cond) ∈ TW := tw_1 (List.mem_of_getElem? (i := 78) (by decide +kernel)) (by decide +kernel)
theorem q1_79 : (.code ⟨"java/lang/StringUTF16","newBytesLength","(I)I"⟩ prog_26_method_3_code 1 (some .int) : Cond) ∈ TW := tw_1 (List.mem_of_getElem? (i := 79) (by decide +kernel)) (by decide +kernel)
theorem q1_80 : (.constant "java/lang/StringUTF16" 20 (1073741823) : Cond) ∈ TW := tw_1 (List.mem_of_getElem? (i := 80) (by decide +kernel)) (by decide +kernel)
theorem q1_81 : (.fieldLink "java/lang/AbstractStringBuilder" 15 "java/lang/AbstractStringBuilder" "value" "[B" : Cond) ∈ TW := tw_1 (List.mem_of_getElem? (i := 81) (by decide +kernel)) (by decide +kernel)
theorem q1_82 : (.fieldLink "java/lang/AbstractStringBuilder" 22 "java/lang/AbstractStringBuilder" "coder" "B" : Cond) ∈ TW := tw_1 (List.mem_of_getElem? (i := 82) (by decide +kernel)) (by decide +kernel)
theorem q1_83 : (.fieldLink "java/lang/AbstractStringBuilder" 73 "java/lang/AbstractStringBuilder" "maybeLatin1" "Z" : Cond) ∈ TW := tw_1 (List.mem_of_getElem? (i := 83) (by decide +kernel)) (by decide +kernel)
theorem q1_84 : (.fieldLink "java/lang/String" 1048 "java/lang/AbstractStringBuilder" "maybeLatin1" "Z" : Cond) ∈ TW := tw_1 (List.mem_of_getElem? (i := 84) (by decide +kernel)) (by decide +kernel)
theorem q1_85 : (.fieldLink "java/lang/AbstractStringBuilder" 79 "java/lang/AbstractStringBuilder" "count" "I" : Cond) ∈ TW := tw_1 (List.mem_of_getElem? (i := 85) (by decide +kernel)) (by decide +kernel)
theorem q1_86 : (.lays "java/lang/StringBuilder" "java/lang/AbstractStringBuilder" "value" "[B" : Cond) ∈ TW := tw_1 (List.mem_of_getElem? (i := 86) (by decide +kernel)) (by decide +kernel)
theorem q1_87 : (.soleField "java/lang/AbstractStringBuilder" "value" : Cond) ∈ TW := tw_1 (List.mem_of_getElem? (i := 87) (by decide +kernel)) (by decide +kernel)
theorem q1_88 : (.lays "java/lang/StringBuilder" "java/lang/AbstractStringBuilder" "coder" "B" : Cond) ∈ TW := tw_1 (List.mem_of_getElem? (i := 88) (by decide +kernel)) (by decide +kernel)
theorem q1_89 : (.soleField "java/lang/AbstractStringBuilder" "coder" : Cond) ∈ TW := tw_1 (List.mem_of_getElem? (i := 89) (by decide +kernel)) (by decide +kernel)
theorem q1_90 : (.lays "java/lang/StringBuilder" "java/lang/AbstractStringBuilder" "maybeLatin1" "Z" : Cond) ∈ TW := tw_1 (List.mem_of_getElem? (i := 90) (by decide +kernel)) (by decide +kernel)
theorem q1_91 : (.soleField "java/lang/AbstractStringBuilder" "maybeLatin1" : Cond) ∈ TW := tw_1 (List.mem_of_getElem? (i := 91) (by decide +kernel)) (by decide +kernel)
theorem q1_92 : (.lays "java/lang/StringBuilder" "java/lang/AbstractStringBuilder" "count" "I" : Cond) ∈ TW := tw_1 (List.mem_of_getElem? (i := 92) (by decide +kernel)) (by decide +kernel)
theorem q1_93 : (.soleField "java/lang/AbstractStringBuilder" "count" : Cond) ∈ TW := tw_1 (List.mem_of_getElem? (i := 93) (by decide +kernel)) (by decide +kernel)
theorem q1_94 : (.superclass "java/lang/StringBuilder" "java/lang/AbstractStringBuilder" : Cond) ∈ TW := tw_1 (List.mem_of_getElem? (i := 94) (by decide +kernel)) (by decide +kernel)
theorem q1_95 : (.arrayClass .byte : Cond) ∈ TW := tw_1 (List.mem_of_getElem? (i := 95) (by decide +kernel)) (by decide +kernel)
theorem q1_96 : (.classLink "Springleaf" 26 "Springleaf$Fold" : Cond) ∈ TW := tw_1 (List.mem_of_getElem? (i := 96) (by decide +kernel)) (by decide +kernel)
theorem q1_97 : (.instantiable "Springleaf$Fold" 7 : Cond) ∈ TW := tw_1 (List.mem_of_getElem? (i := 97) (by decide +kernel)) (by decide +kernel)
theorem q1_98 : (.methodLink "Springleaf" 28 ⟨"Springleaf$Fold","<init>","(ILSpringleaf$Fold;II)V"⟩ : Cond) ∈ TW := tw_1 (List.mem_of_getElem? (i := 98) (by decide +kernel)) (by decide +kernel)
theorem q1_99 : (.instanceMethod ⟨"Springleaf$Fold","<init>","(ILSpringleaf$Fold;II)V"⟩ : Cond) ∈ TW := tw_1 (List.mem_of_getElem? (i := 99) (by decide +kernel)) (by decide +kernel)
theorem q1_100 : (.code ⟨"Springleaf$Fold","<init>","(ILSpringleaf$Fold;II)V"⟩ prog_2_method_1_code 5 none : Cond) ∈ TW := tw_1 (List.mem_of_getElem? (i := 100) (by decide +kernel)) (by decide +kernel)
theorem q1_101 : (.methodLink "Springleaf$Fold" 3 ⟨"java/lang/Object","<init>","()V"⟩ : Cond) ∈ TW := tw_1 (List.mem_of_getElem? (i := 101) (by decide +kernel)) (by decide +kernel)
theorem q1_102 : (.fieldLink "Springleaf$Fold" 9 "Springleaf$Fold" "number" "I" : Cond) ∈ TW := tw_1 (List.mem_of_getElem? (i := 102) (by decide +kernel)) (by decide +kernel)
theorem q1_103 : (.fieldLink "Springleaf$Fold" 15 "Springleaf$Fold" "on" "LSpringleaf$Fold;" : Cond) ∈ TW := tw_1 (List.mem_of_getElem? (i := 103) (by decide +kernel)) (by decide +kernel)
theorem q1_104 : (.fieldLink "Springleaf" 204 "Springleaf$Fold" "on" "LSpringleaf$Fold;" : Cond) ∈ TW := tw_1 (List.mem_of_getElem? (i := 104) (by decide +kernel)) (by decide +kernel)
theorem q1_105 : (.fieldLink "Springleaf$Fold" 19 "Springleaf$Fold" "pull" "I" : Cond) ∈ TW := tw_1 (List.mem_of_getElem? (i := 105) (by decide +kernel)) (by decide +kernel)
theorem q1_106 : (.fieldLink "Springleaf$Fold" 22 "Springleaf$Fold" "lean" "I" : Cond) ∈ TW := tw_1 (List.mem_of_getElem? (i := 106) (by decide +kernel)) (by decide +kernel)
theorem q1_107 : (.fieldLink "Springleaf$Fold" 25 "Springleaf$Fold" "angle" "I" : Cond) ∈ TW := tw_1 (List.mem_of_getElem? (i := 107) (by decide +kernel)) (by decide +kernel)
theorem q1_108 : (.fieldLink "Springleaf$Part" 35 "Springleaf$Fold" "angle" "I" : Cond) ∈ TW := tw_1 (List.mem_of_getElem? (i := 108) (by decide +kernel)) (by decide +kernel)
theorem q1_109 : (.fieldLink "Springleaf" 85 "Springleaf$Fold" "angle" "I" : Cond) ∈ TW := tw_1 (List.mem_of_getElem? (i := 109) (by decide +kernel)) (by decide +kernel)
theorem q1_110 : (.fieldLink "Springleaf$Fold" 28 "Springleaf$Fold" "pulled" "I" : Cond) ∈ TW := tw_1 (List.mem_of_getElem? (i := 110) (by decide +kernel)) (by decide +kernel)
theorem q1_111 : (.fieldLink "Springleaf$Fold" 35 "Springleaf$Fold" "growth" "I" : Cond) ∈ TW := tw_1 (List.mem_of_getElem? (i := 111) (by decide +kernel)) (by decide +kernel)
theorem q1_112 : (.laysFinal "Springleaf$Fold" "Springleaf$Fold" "number" "I" : Cond) ∈ TW := tw_1 (List.mem_of_getElem? (i := 112) (by decide +kernel)) (by decide +kernel)
theorem q1_113 : (.soleField "Springleaf$Fold" "number" : Cond) ∈ TW := tw_1 (List.mem_of_getElem? (i := 113) (by decide +kernel)) (by decide +kernel)
theorem q1_114 : (.laysFinal "Springleaf$Fold" "Springleaf$Fold" "on" "LSpringleaf$Fold;" : Cond) ∈ TW := tw_1 (List.mem_of_getElem? (i := 114) (by decide +kernel)) (by decide +kernel)
theorem q1_115 : (.soleField "Springleaf$Fold" "on" : Cond) ∈ TW := tw_1 (List.mem_of_getElem? (i := 115) (by decide +kernel)) (by decide +kernel)
theorem q1_116 : (.laysFinal "Springleaf$Fold" "Springleaf$Fold" "pull" "I" : Cond) ∈ TW := tw_1 (List.mem_of_getElem? (i := 116) (by decide +kernel)) (by decide +kernel)
theorem q1_117 : (.soleField "Springleaf$Fold" "pull" : Cond) ∈ TW := tw_1 (List.mem_of_getElem? (i := 117) (by decide +kernel)) (by decide +kernel)
theorem q1_118 : (.laysFinal "Springleaf$Fold" "Springleaf$Fold" "lean" "I" : Cond) ∈ TW := tw_1 (List.mem_of_getElem? (i := 118) (by decide +kernel)) (by decide +kernel)
theorem q1_119 : (.soleField "Springleaf$Fold" "lean" : Cond) ∈ TW := tw_1 (List.mem_of_getElem? (i := 119) (by decide +kernel)) (by decide +kernel)
theorem q1_120 : (.lays "Springleaf$Fold" "Springleaf$Fold" "angle" "I" : Cond) ∈ TW := tw_1 (List.mem_of_getElem? (i := 120) (by decide +kernel)) (by decide +kernel)
theorem q1_121 : (.soleField "Springleaf$Fold" "angle" : Cond) ∈ TW := tw_1 (List.mem_of_getElem? (i := 121) (by decide +kernel)) (by decide +kernel)
theorem q1_122 : (.lays "Springleaf$Fold" "Springleaf$Fold" "pulled" "I" : Cond) ∈ TW := tw_1 (List.mem_of_getElem? (i := 122) (by decide +kernel)) (by decide +kernel)
theorem q1_123 : (.soleField "Springleaf$Fold" "pulled" : Cond) ∈ TW := tw_1 (List.mem_of_getElem? (i := 123) (by decide +kernel)) (by decide +kernel)
theorem q1_124 : (.lays "Springleaf$Fold" "Springleaf$Fold" "growth" "I" : Cond) ∈ TW := tw_1 (List.mem_of_getElem? (i := 124) (by decide +kernel)) (by decide +kernel)
theorem q1_125 : (.soleField "Springleaf$Fold" "growth" : Cond) ∈ TW := tw_1 (List.mem_of_getElem? (i := 125) (by decide +kernel)) (by decide +kernel)
theorem q1_126 : (.superclass "Springleaf$Fold" "java/lang/Object" : Cond) ∈ TW := tw_1 (List.mem_of_getElem? (i := 126) (by decide +kernel)) (by decide +kernel)
theorem q1_127 : (.methodLink "Springleaf" 31 ⟨"java/util/ArrayList","add","(Ljava/lang/Object;)Z"⟩ : Cond) ∈ TW := tw_1 (List.mem_of_getElem? (i := 127) (by decide +kernel)) (by decide +kernel)
theorem q1_128 : (.instanceMethod ⟨"java/util/ArrayList","add","(Ljava/lang/Object;)Z"⟩ : Cond) ∈ TW := tw_1 (List.mem_of_getElem? (i := 128) (by decide +kernel)) (by decide +kernel)
theorem q1_129 : (.selects "java/util/ArrayList" ⟨"java/util/ArrayList","add","(Ljava/lang/Object;)Z"⟩ ⟨"java/util/ArrayList","add","(Ljava/lang/Object;)Z"⟩ : Cond) ∈ TW := tw_1 (List.mem_of_getElem? (i := 129) (by decide +kernel)) (by decide +kernel)
theorem q1_130 : (.code ⟨"java/util/ArrayList","add","(Ljava/lang/Object;)Z"⟩ prog_33_method_25_code 2 (some .boolean) : Cond) ∈ TW := tw_1 (List.mem_of_getElem? (i := 130) (by decide +kernel)) (by decide +kernel)
theorem q1_131 : (.methodLink "java/util/ArrayList" 131 ⟨"java/util/ArrayList","add","(Ljava/lang/Object;[Ljava/lang/Object;I)V"⟩ : Cond) ∈ TW := tw_1 (List.mem_of_getElem? (i := 131) (by decide +kernel)) (by decide +kernel)
theorem q1_132 : (.privateMethod ⟨"java/util/ArrayList","add","(Ljava/lang/Object;[Ljava/lang/Object;I)V"⟩ : Cond) ∈ TW := tw_1 (List.mem_of_getElem? (i := 132) (by decide +kernel)) (by decide +kernel)
theorem q1_133 : (.instanceMethod ⟨"java/util/ArrayList","add","(Ljava/lang/Object;[Ljava/lang/Object;I)V"⟩ : Cond) ∈ TW := tw_1 (List.mem_of_getElem? (i := 133) (by decide +kernel)) (by decide +kernel)
theorem q1_134 : (.code ⟨"java/util/ArrayList","add","(Ljava/lang/Object;[Ljava/lang/Object;I)V"⟩ prog_33_method_24_code 4 none : Cond) ∈ TW := tw_1 (List.mem_of_getElem? (i := 134) (by decide +kernel)) (by decide +kernel)
theorem q1_135 : (.methodLink "java/util/ArrayList" 129 ⟨"java/util/ArrayList","grow","()[Ljava/lang/Object;"⟩ : Cond) ∈ TW := tw_1 (List.mem_of_getElem? (i := 135) (by decide +kernel)) (by decide +kernel)
theorem q1_136 : (.privateMethod ⟨"java/util/ArrayList","grow","()[Ljava/lang/Object;"⟩ : Cond) ∈ TW := tw_1 (List.mem_of_getElem? (i := 136) (by decide +kernel)) (by decide +kernel)
theorem q1_137 : (.instanceMethod ⟨"java/util/ArrayList","grow","()[Ljava/lang/Object;"⟩ : Cond) ∈ TW := tw_1 (List.mem_of_getElem? (i := 137) (by decide +kernel)) (by decide +kernel)
theorem q1_138 : (.code ⟨"java/util/ArrayList","grow","()[Ljava/lang/Object;"⟩ prog_33_method_7_code 1 (some (.array (.object "java/lang/Object"))) : Cond) ∈ TW := tw_1 (List.mem_of_getElem? (i := 138) (by decide +kernel)) (by decide +kernel)
theorem q1_139 : (.methodLink "java/util/ArrayList" 69 ⟨"java/util/ArrayList","grow","(I)[Ljava/lang/Object;"⟩ : Cond) ∈ TW := tw_1 (List.mem_of_getElem? (i := 139) (by decide +kernel)) (by decide +kernel)
theorem q1_140 : (.privateMethod ⟨"java/util/ArrayList","grow","(I)[Ljava/lang/Object;"⟩ : Cond) ∈ TW := tw_1 (List.mem_of_getElem? (i := 140) (by decide +kernel)) (by decide +kernel)
theorem q1_141 : (.instanceMethod ⟨"java/util/ArrayList","grow","(I)[Ljava/lang/Object;"⟩ : Cond) ∈ TW := tw_1 (List.mem_of_getElem? (i := 141) (by decide +kernel)) (by decide +kernel)
theorem q1_142 : (.code ⟨"java/util/ArrayList","grow","(I)[Ljava/lang/Object;"⟩ prog_33_method_6_code 4 (some (.array (.object "java/lang/Object"))) : Cond) ∈ TW := tw_1 (List.mem_of_getElem? (i := 142) (by decide +kernel)) (by decide +kernel)
theorem q1_143 : (.methodLink "java/util/ArrayList" 73 ⟨"jdk/internal/util/ArraysSupport","newLength","(III)I"⟩ : Cond) ∈ TW := tw_1 (List.mem_of_getElem? (i := 143) (by decide +kernel)) (by decide +kernel)
theorem q1_144 : (.static ⟨"jdk/internal/util/ArraysSupport","newLength","(III)I"⟩ : Cond) ∈ TW := tw_1 (List.mem_of_getElem? (i := 144) (by decide +kernel)) (by decide +kernel)
theorem q1_145 : (.code ⟨"jdk/internal/util/ArraysSupport","newLength","(III)I"⟩ prog_40_method_27_code 4 (some .int) : Cond) ∈ TW := tw_1 (List.mem_of_getElem? (i := 145) (by decide +kernel)) (by decide +kernel)
theorem q1_146 : (.methodLink "jdk/internal/util/ArraysSupport" 194 ⟨"java/lang/Math","max","(II)I"⟩ : Cond) ∈ TW := tw_1 (List.mem_of_getElem? (i := 146) (by decide +kernel)) (by decide +kernel)
theorem q1_147 : (.static ⟨"java/lang/Math","max","(II)I"⟩ : Cond) ∈ TW := tw_1 (List.mem_of_getElem? (i := 147) (by decide +kernel)) (by decide +kernel)
theorem q1_148 : (.code ⟨"java/lang/Math","max","(II)I"⟩ prog_19_method_65_code 2 (some .int) : Cond) ∈ TW := tw_1 (List.mem_of_getElem? (i := 148) (by decide +kernel)) (by decide +kernel)
theorem q1_149 : (.constant "jdk/internal/util/ArraysSupport" 200 (2147483639) : Cond) ∈ TW := tw_1 (List.mem_of_getElem? (i := 149) (by decide +kernel)) (by decide +kernel)
theorem q1_150 : (.methodLink "jdk/internal/util/ArraysSupport" 201 ⟨"jdk/internal/util/ArraysSupport","hugeLength","(II)I"⟩ : Cond) ∈ TW := tw_1 (List.mem_of_getElem? (i := 150) (by decide +kernel)) (by decide +kernel)
theorem q1_151 : (.static ⟨"jdk/internal/util/ArraysSupport","hugeLength","(II)I"⟩ : Cond) ∈ TW := tw_1 (List.mem_of_getElem? (i := 151) (by decide +kernel)) (by decide +kernel)
theorem q1_152 : (.code ⟨"jdk/internal/util/ArraysSupport","hugeLength","(II)I"⟩ prog_40_method_28_code 3 (some .int) : Cond) ∈ TW := tw_1 (List.mem_of_getElem? (i := 152) (by decide +kernel)) (by decide +kernel)
theorem q1_153 : (.methodLink "java/util/ArrayList" 66 ⟨"java/util/Arrays","copyOf","([Ljava/lang/Object;I)[Ljava/lang/Object;"⟩ : Cond) ∈ TW := tw_1 (List.mem_of_getElem? (i := 153) (by decide +kernel)) (by decide +kernel)
theorem q1_154 : (.static ⟨"java/util/Arrays","copyOf","([Ljava/lang/Object;I)[Ljava/lang/Object;"⟩ : Cond) ∈ TW := tw_1 (List.mem_of_getElem? (i := 154) (by decide +kernel)) (by decide +kernel)
theorem q1_155 : (.code ⟨"java/util/Arrays","copyOf","([Ljava/lang/Object;I)[Ljava/lang/Object;"⟩ prog_34_method_119_code 2 (some (.array (.object "java/lang/Object"))) : Cond) ∈ TW := tw_1 (List.mem_of_getElem? (i := 155) (by decide +kernel)) (by decide +kernel)
theorem q1_156 : (.methodLink "java/util/Arrays" 86 ⟨"java/lang/Object","getClass","()Ljava/lang/Class;"⟩ : Cond) ∈ TW := tw_1 (List.mem_of_getElem? (i := 156) (by decide +kernel)) (by decide +kernel)
theorem q1_157 : (.instanceMethod ⟨"java/lang/Object","getClass","()Ljava/lang/Class;"⟩ : Cond) ∈ TW := tw_1 (List.mem_of_getElem? (i := 157) (by decide +kernel)) (by decide +kernel)
theorem q1_158 : (.sameMethod "java/lang/Object" "java/lang/Object" "getClass" "()Ljava/lang/Class;" : Cond) ∈ TW := tw_1 (List.mem_of_getElem? (i := 158) (by decide +kernel)) (by decide +kernel)
theorem q1_159 : (.selects "Springleaf" ⟨"java/lang/Object","getClass","()Ljava/lang/Class;"⟩ ⟨"java/lang/Object","getClass","()Ljava/lang/Class;"⟩ : Cond) ∈ TW := tw_1 (List.mem_of_getElem? (i := 159) (by decide +kernel)) (by decide +kernel)
theorem q1_160 : (.selects "Springleaf$Fold" ⟨"java/lang/Object","getClass","()Ljava/lang/Class;"⟩ ⟨"java/lang/Object","getClass","()Ljava/lang/Class;"⟩ : Cond) ∈ TW := tw_1 (List.mem_of_getElem? (i := 160) (by decide +kernel)) (by decide +kernel)
theorem q1_161 : (.selects "Springleaf$Part" ⟨"java/lang/Object","getClass","()Ljava/lang/Class;"⟩ ⟨"java/lang/Object","getClass","()Ljava/lang/Class;"⟩ : Cond) ∈ TW := tw_1 (List.mem_of_getElem? (i := 161) (by decide +kernel)) (by decide +kernel)
theorem q1_162 : (.selects "SpringleafModel" ⟨"java/lang/Object","getClass","()Ljava/lang/Class;"⟩ ⟨"java/lang/Object","getClass","()Ljava/lang/Class;"⟩ : Cond) ∈ TW := tw_1 (List.mem_of_getElem? (i := 162) (by decide +kernel)) (by decide +kernel)
theorem q1_163 : (.selects "java/lang/ArrayIndexOutOfBoundsException" ⟨"java/lang/Object","getClass","()Ljava/lang/Class;"⟩ ⟨"java/lang/Object","getClass","()Ljava/lang/Class;"⟩ : Cond) ∈ TW := tw_1 (List.mem_of_getElem? (i := 163) (by decide +kernel)) (by decide +kernel)
theorem q1_164 : (.selects "java/lang/IllegalArgumentException" ⟨"java/lang/Object","getClass","()Ljava/lang/Class;"⟩ ⟨"java/lang/Object","getClass","()Ljava/lang/Class;"⟩ : Cond) ∈ TW := tw_1 (List.mem_of_getElem? (i := 164) (by decide +kernel)) (by decide +kernel)
theorem q1_165 : (.selects "java/lang/IllegalStateException" ⟨"java/lang/Object","getClass","()Ljava/lang/Class;"⟩ ⟨"java/lang/Object","getClass","()Ljava/lang/Class;"⟩ : Cond) ∈ TW := tw_1 (List.mem_of_getElem? (i := 165) (by decide +kernel)) (by decide +kernel)
theorem q1_166 : (.selects "java/lang/IndexOutOfBoundsException" ⟨"java/lang/Object","getClass","()Ljava/lang/Class;"⟩ ⟨"java/lang/Object","getClass","()Ljava/lang/Class;"⟩ : Cond) ∈ TW := tw_1 (List.mem_of_getElem? (i := 166) (by decide +kernel)) (by decide +kernel)
theorem q1_167 : (.selects "java/lang/String" ⟨"java/lang/Object","getClass","()Ljava/lang/Class;"⟩ ⟨"java/lang/Object","getClass","()Ljava/lang/Class;"⟩ : Cond) ∈ TW := tw_1 (List.mem_of_getElem? (i := 167) (by decide +kernel)) (by decide +kernel)
theorem q1_168 : (.selects "java/lang/StringBuilder" ⟨"java/lang/Object","getClass","()Ljava/lang/Class;"⟩ ⟨"java/lang/Object","getClass","()Ljava/lang/Class;"⟩ : Cond) ∈ TW := tw_1 (List.mem_of_getElem? (i := 168) (by decide +kernel)) (by decide +kernel)
theorem q1_169 : (.selects "java/lang/StringIndexOutOfBoundsException" ⟨"java/lang/Object","getClass","()Ljava/lang/Class;"⟩ ⟨"java/lang/Object","getClass","()Ljava/lang/Class;"⟩ : Cond) ∈ TW := tw_1 (List.mem_of_getElem? (i := 169) (by decide +kernel)) (by decide +kernel)
theorem q1_170 : (.selects "java/util/ArrayList" ⟨"java/lang/Object","getClass","()Ljava/lang/Class;"⟩ ⟨"java/lang/Object","getClass","()Ljava/lang/Class;"⟩ : Cond) ∈ TW := tw_1 (List.mem_of_getElem? (i := 170) (by decide +kernel)) (by decide +kernel)
theorem q1_171 : (.native ⟨"java/lang/Object","getClass","()Ljava/lang/Class;"⟩ : Cond) ∈ TW := tw_1 (List.mem_of_getElem? (i := 171) (by decide +kernel)) (by decide +kernel)
theorem q1_172 : (.methodLink "java/util/Arrays" 300 ⟨"java/util/Arrays","copyOf","([Ljava/lang/Object;ILjava/lang/Class;)[Ljava/lang/Object;"⟩ : Cond) ∈ TW := tw_1 (List.mem_of_getElem? (i := 172) (by decide +kernel)) (by decide +kernel)
theorem q1_173 : (.static ⟨"java/util/Arrays","copyOf","([Ljava/lang/Object;ILjava/lang/Class;)[Ljava/lang/Object;"⟩ : Cond) ∈ TW := tw_1 (List.mem_of_getElem? (i := 173) (by decide +kernel)) (by decide +kernel)
theorem q1_174 : (.code ⟨"java/util/Arrays","copyOf","([Ljava/lang/Object;ILjava/lang/Class;)[Ljava/lang/Object;"⟩ prog_34_method_120_code 4 (some (.array (.object "java/lang/Object"))) : Cond) ∈ TW := tw_1 (List.mem_of_getElem? (i := 174) (by decide +kernel)) (by decide +kernel)
theorem q1_175 : (.classLink "java/util/Arrays" 110 "[Ljava/lang/Object;" : Cond) ∈ TW := tw_1 (List.mem_of_getElem? (i := 175) (by decide +kernel)) (by decide +kernel)
theorem q1_177 : (.classLink "java/util/Arrays" 2 "java/lang/Object" : Cond) ∈ TW := tw_1 (List.mem_of_getElem? (i := 177) (by decide +kernel)) (by decide +kernel)
theorem q1_178 : (.methodLink "java/util/Arrays" 304 ⟨"java/lang/Math","min","(II)I"⟩ : Cond) ∈ TW := tw_1 (List.mem_of_getElem? (i := 178) (by decide +kernel)) (by decide +kernel)
theorem q1_179 : (.static ⟨"java/lang/Math","min","(II)I"⟩ : Cond) ∈ TW := tw_1 (List.mem_of_getElem? (i := 179) (by decide +kernel)) (by decide +kernel)
theorem q1_180 : (.code ⟨"java/lang/Math","min","(II)I"⟩ prog_19_method_69_code 2 (some .int) : Cond) ∈ TW := tw_1 (List.mem_of_getElem? (i := 180) (by decide +kernel)) (by decide +kernel)
theorem q1_181 : (.methodLink "java/util/Arrays" 150 ⟨"java/lang/System","arraycopy","(Ljava/lang/Object;ILjava/lang/Object;II)V"⟩ : Cond) ∈ TW := tw_1 (List.mem_of_getElem? (i := 181) (by decide +kernel)) (by decide +kernel)
theorem q1_182 : (.static ⟨"java/lang/System","arraycopy","(Ljava/lang/Object;ILjava/lang/Object;II)V"⟩ : Cond) ∈ TW := tw_1 (List.mem_of_getElem? (i := 182) (by decide +kernel)) (by decide +kernel)
theorem q1_183 : (.native ⟨"java/lang/System","arraycopy","(Ljava/lang/Object;ILjava/lang/Object;II)V"⟩ : Cond) ∈ TW := tw_1 (List.mem_of_getElem? (i := 183) (by decide +kernel)) (by decide +kernel)
theorem q1_184 : (.methodLink "java/util/ArrayList" 79 ⟨"java/lang/Math","max","(II)I"⟩ : Cond) ∈ TW := tw_1 (List.mem_of_getElem? (i := 184) (by decide +kernel)) (by decide +kernel)
theorem q1_185 : (.classLink "java/util/ArrayList" 7 "java/lang/Object" : Cond) ∈ TW := tw_1 (List.mem_of_getElem? (i := 185) (by decide +kernel)) (by decide +kernel)
theorem q1_186 : (.fieldLink "Springleaf" 10 "Springleaf" "folds" "Ljava/util/ArrayList;" : Cond) ∈ TW := tw_1 (List.mem_of_getElem? (i := 186) (by decide +kernel)) (by decide +kernel)
theorem q1_187 : (.fieldLink "Springleaf" 16 "Springleaf" "parts" "Ljava/util/ArrayList;" : Cond) ∈ TW := tw_1 (List.mem_of_getElem? (i := 187) (by decide +kernel)) (by decide +kernel)
theorem q1_188 : (.fieldLink "Springleaf" 22 "Springleaf" "told" "Ljava/lang/StringBuilder;" : Cond) ∈ TW := tw_1 (List.mem_of_getElem? (i := 188) (by decide +kernel)) (by decide +kernel)
theorem q1_189 : (.fieldLink "Springleaf" 142 "Springleaf" "gluedCount" "I" : Cond) ∈ TW := tw_1 (List.mem_of_getElem? (i := 189) (by decide +kernel)) (by decide +kernel)
theorem q1_190 : (.fieldLink "Springleaf" 117 "Springleaf" "sheetCount" "I" : Cond) ∈ TW := tw_1 (List.mem_of_getElem? (i := 190) (by decide +kernel)) (by decide +kernel)
theorem q1_191 : (.laysFinal "Springleaf" "Springleaf" "folds" "Ljava/util/ArrayList;" : Cond) ∈ TW := tw_1 (List.mem_of_getElem? (i := 191) (by decide +kernel)) (by decide +kernel)
theorem q1_192 : (.soleField "Springleaf" "folds" : Cond) ∈ TW := tw_1 (List.mem_of_getElem? (i := 192) (by decide +kernel)) (by decide +kernel)
theorem q1_193 : (.laysFinal "Springleaf" "Springleaf" "parts" "Ljava/util/ArrayList;" : Cond) ∈ TW := tw_1 (List.mem_of_getElem? (i := 193) (by decide +kernel)) (by decide +kernel)
theorem q1_194 : (.soleField "Springleaf" "parts" : Cond) ∈ TW := tw_1 (List.mem_of_getElem? (i := 194) (by decide +kernel)) (by decide +kernel)
theorem q1_195 : (.laysFinal "Springleaf" "Springleaf" "told" "Ljava/lang/StringBuilder;" : Cond) ∈ TW := tw_1 (List.mem_of_getElem? (i := 195) (by decide +kernel)) (by decide +kernel)
theorem q1_196 : (.soleField "Springleaf" "told" : Cond) ∈ TW := tw_1 (List.mem_of_getElem? (i := 196) (by decide +kernel)) (by decide +kernel)
theorem q1_197 : (.lays "Springleaf" "Springleaf" "gluedCount" "I" : Cond) ∈ TW := tw_1 (List.mem_of_getElem? (i := 197) (by decide +kernel)) (by decide +kernel)
theorem q1_198 : (.soleField "Springleaf" "gluedCount" : Cond) ∈ TW := tw_1 (List.mem_of_getElem? (i := 198) (by decide +kernel)) (by decide +kernel)
theorem q1_199 : (.lays "Springleaf" "Springleaf" "sheetCount" "I" : Cond) ∈ TW := tw_1 (List.mem_of_getElem? (i := 199) (by decide +kernel)) (by decide +kernel)
theorem q1_200 : (.soleField "Springleaf" "sheetCount" : Cond) ∈ TW := tw_1 (List.mem_of_getElem? (i := 200) (by decide +kernel)) (by decide +kernel)
theorem q1_201 : (.superclass "Springleaf" "java/lang/Object" : Cond) ∈ TW := tw_1 (List.mem_of_getElem? (i := 201) (by decide +kernel)) (by decide +kernel)
theorem q1_202 : (.methodLink "SpringleafLaw" 88 ⟨"Springleaf","test","()I"⟩ : Cond) ∈ TW := tw_1 (List.mem_of_getElem? (i := 202) (by decide +kernel)) (by decide +kernel)
theorem q1_203 : (.instanceMethod ⟨"Springleaf","test","()I"⟩ : Cond) ∈ TW := tw_1 (List.mem_of_getElem? (i := 203) (by decide +kernel)) (by decide +kernel)
theorem q1_204 : (.selects "Springleaf" ⟨"Springleaf","test","()I"⟩ ⟨"Springleaf","test","()I"⟩ : Cond) ∈ TW := tw_1 (List.mem_of_getElem? (i := 204) (by decide +kernel)) (by decide +kernel)
theorem q1_205 : (.code ⟨"Springleaf","test","()I"⟩ prog_1_method_8_code 3 (some .int) : Cond) ∈ TW := tw_1 (List.mem_of_getElem? (i := 205) (by decide +kernel)) (by decide +kernel)
theorem q1_206 : (.methodLink "Springleaf" 82 ⟨"Springleaf","openTo","(I)V"⟩ : Cond) ∈ TW := tw_1 (List.mem_of_getElem? (i := 206) (by decide +kernel)) (by decide +kernel)
theorem q1_207 : (.privateMethod ⟨"Springleaf","openTo","(I)V"⟩ : Cond) ∈ TW := tw_1 (List.mem_of_getElem? (i := 207) (by decide +kernel)) (by decide +kernel)
theorem q1_208 : (.instanceMethod ⟨"Springleaf","openTo","(I)V"⟩ : Cond) ∈ TW := tw_1 (List.mem_of_getElem? (i := 208) (by decide +kernel)) (by decide +kernel)
theorem q1_209 : (.code ⟨"Springleaf","openTo","(I)V"⟩ prog_1_method_23_code 3 none : Cond) ∈ TW := tw_1 (List.mem_of_getElem? (i := 209) (by decide +kernel)) (by decide +kernel)
theorem q1_210 : (.methodLink "Springleaf" 50 ⟨"java/util/ArrayList","size","()I"⟩ : Cond) ∈ TW := tw_1 (List.mem_of_getElem? (i := 210) (by decide +kernel)) (by decide +kernel)
theorem q1_211 : (.instanceMethod ⟨"java/util/ArrayList","size","()I"⟩ : Cond) ∈ TW := tw_1 (List.mem_of_getElem? (i := 211) (by decide +kernel)) (by decide +kernel)
theorem q1_212 : (.selects "java/util/ArrayList" ⟨"java/util/ArrayList","size","()I"⟩ ⟨"java/util/ArrayList","size","()I"⟩ : Cond) ∈ TW := tw_1 (List.mem_of_getElem? (i := 212) (by decide +kernel)) (by decide +kernel)
theorem q1_213 : (.code ⟨"java/util/ArrayList","size","()I"⟩ prog_33_method_8_code 1 (some .int) : Cond) ∈ TW := tw_1 (List.mem_of_getElem? (i := 213) (by decide +kernel)) (by decide +kernel)
theorem q1_214 : (.methodLink "Springleaf" 63 ⟨"java/util/ArrayList","get","(I)Ljava/lang/Object;"⟩ : Cond) ∈ TW := tw_1 (List.mem_of_getElem? (i := 214) (by decide +kernel)) (by decide +kernel)
theorem q1_215 : (.instanceMethod ⟨"java/util/ArrayList","get","(I)Ljava/lang/Object;"⟩ : Cond) ∈ TW := tw_1 (List.mem_of_getElem? (i := 215) (by decide +kernel)) (by decide +kernel)
theorem q1_216 : (.selects "java/util/ArrayList" ⟨"java/util/ArrayList","get","(I)Ljava/lang/Object;"⟩ ⟨"java/util/ArrayList","get","(I)Ljava/lang/Object;"⟩ : Cond) ∈ TW := tw_1 (List.mem_of_getElem? (i := 216) (by decide +kernel)) (by decide +kernel)
theorem q1_217 : (.code ⟨"java/util/ArrayList","get","(I)Ljava/lang/Object;"⟩ prog_33_method_20_code 2 (some (.object "java/lang/Object")) : Cond) ∈ TW := tw_1 (List.mem_of_getElem? (i := 217) (by decide +kernel)) (by decide +kernel)
theorem q1_218 : (.methodLink "java/util/ArrayList" 118 ⟨"java/util/Objects","checkIndex","(II)I"⟩ : Cond) ∈ TW := tw_1 (List.mem_of_getElem? (i := 218) (by decide +kernel)) (by decide +kernel)
theorem q1_219 : (.static ⟨"java/util/Objects","checkIndex","(II)I"⟩ : Cond) ∈ TW := tw_1 (List.mem_of_getElem? (i := 219) (by decide +kernel)) (by decide +kernel)
theorem q1_220 : (.code ⟨"java/util/Objects","checkIndex","(II)I"⟩ prog_37_method_17_code 2 (some .int) : Cond) ∈ TW := tw_1 (List.mem_of_getElem? (i := 220) (by decide +kernel)) (by decide +kernel)
theorem q1_221 : (.methodLink "java/util/Objects" 105 ⟨"jdk/internal/util/Preconditions","checkIndex","(IILjava/util/function/BiFunction;)I"⟩ : Cond) ∈ TW := tw_1 (List.mem_of_getElem? (i := 221) (by decide +kernel)) (by decide +kernel)
theorem q1_222 : (.static ⟨"jdk/internal/util/Preconditions","checkIndex","(IILjava/util/function/BiFunction;)I"⟩ : Cond) ∈ TW := tw_1 (List.mem_of_getElem? (i := 222) (by decide +kernel)) (by decide +kernel)
theorem q1_223 : (.code ⟨"jdk/internal/util/Preconditions","checkIndex","(IILjava/util/function/BiFunction;)I"⟩ prog_41_method_11_code 3 (some .int) : Cond) ∈ TW := tw_1 (List.mem_of_getElem? (i := 223) (by decide +kernel)) (by decide +kernel)
theorem q1_224 : (.methodLink "java/util/ArrayList" 123 ⟨"java/util/ArrayList","elementData","(I)Ljava/lang/Object;"⟩ : Cond) ∈ TW := tw_1 (List.mem_of_getElem? (i := 224) (by decide +kernel)) (by decide +kernel)
theorem q1_225 : (.instanceMethod ⟨"java/util/ArrayList","elementData","(I)Ljava/lang/Object;"⟩ : Cond) ∈ TW := tw_1 (List.mem_of_getElem? (i := 225) (by decide +kernel)) (by decide +kernel)
theorem q1_226 : (.selects "java/util/ArrayList" ⟨"java/util/ArrayList","elementData","(I)Ljava/lang/Object;"⟩ ⟨"java/util/ArrayList","elementData","(I)Ljava/lang/Object;"⟩ : Cond) ∈ TW := tw_1 (List.mem_of_getElem? (i := 226) (by decide +kernel)) (by decide +kernel)
theorem q1_227 : (.code ⟨"java/util/ArrayList","elementData","(I)Ljava/lang/Object;"⟩ prog_33_method_18_code 2 (some (.object "java/lang/Object")) : Cond) ∈ TW := tw_1 (List.mem_of_getElem? (i := 227) (by decide +kernel)) (by decide +kernel)
theorem q1_228 : (.methodLink "Springleaf" 193 ⟨"Springleaf$Fold","openTo","(I)V"⟩ : Cond) ∈ TW := tw_1 (List.mem_of_getElem? (i := 228) (by decide +kernel)) (by decide +kernel)
theorem q1_229 : (.instanceMethod ⟨"Springleaf$Fold","openTo","(I)V"⟩ : Cond) ∈ TW := tw_1 (List.mem_of_getElem? (i := 229) (by decide +kernel)) (by decide +kernel)
theorem q1_230 : (.selects "Springleaf$Fold" ⟨"Springleaf$Fold","openTo","(I)V"⟩ ⟨"Springleaf$Fold","openTo","(I)V"⟩ : Cond) ∈ TW := tw_1 (List.mem_of_getElem? (i := 230) (by decide +kernel)) (by decide +kernel)
theorem q1_231 : (.code ⟨"Springleaf$Fold","openTo","(I)V"⟩ prog_2_method_2_code 2 none : Cond) ∈ TW := tw_1 (List.mem_of_getElem? (i := 231) (by decide +kernel)) (by decide +kernel)
theorem q1_232 : (.methodLink "Springleaf$Fold" 31 ⟨"Springleaf$Fold","angleOfPulled","()I"⟩ : Cond) ∈ TW := tw_1 (List.mem_of_getElem? (i := 232) (by decide +kernel)) (by decide +kernel)
theorem q1_233 : (.instanceMethod ⟨"Springleaf$Fold","angleOfPulled","()I"⟩ : Cond) ∈ TW := tw_1 (List.mem_of_getElem? (i := 233) (by decide +kernel)) (by decide +kernel)
theorem q1_234 : (.selects "Springleaf$Fold" ⟨"Springleaf$Fold","angleOfPulled","()I"⟩ ⟨"Springleaf$Fold","angleOfPulled","()I"⟩ : Cond) ∈ TW := tw_1 (List.mem_of_getElem? (i := 234) (by decide +kernel)) (by decide +kernel)
theorem q1_235 : (.code ⟨"Springleaf$Fold","angleOfPulled","()I"⟩ prog_2_method_4_code 1 (some .int) : Cond) ∈ TW := tw_1 (List.mem_of_getElem? (i := 235) (by decide +kernel)) (by decide +kernel)
theorem q1_236 : (.methodLink "Springleaf$Fold" 38 ⟨"java/lang/Math","floorDiv","(II)I"⟩ : Cond) ∈ TW := tw_1 (List.mem_of_getElem? (i := 236) (by decide +kernel)) (by decide +kernel)
theorem q1_237 : (.static ⟨"java/lang/Math","floorDiv","(II)I"⟩ : Cond) ∈ TW := tw_1 (List.mem_of_getElem? (i := 237) (by decide +kernel)) (by decide +kernel)
theorem q1_238 : (.code ⟨"java/lang/Math","floorDiv","(II)I"⟩ prog_19_method_47_code 3 (some .int) : Cond) ∈ TW := tw_1 (List.mem_of_getElem? (i := 238) (by decide +kernel)) (by decide +kernel)
theorem q1_239 : (.methodLink "Springleaf$Fold" 44 ⟨"java/lang/Math","min","(II)I"⟩ : Cond) ∈ TW := tw_1 (List.mem_of_getElem? (i := 239) (by decide +kernel)) (by decide +kernel)
theorem q2_0 : (.methodLink "Springleaf$Fold" 47 ⟨"java/lang/Math","max","(II)I"⟩ : Cond) ∈ TW := tw_2 (List.mem_of_getElem? (i := 0) (by decide +kernel)) (by decide +kernel)
theorem q2_1 : (.methodLink "Springleaf" 111 ⟨"Springleaf","firstThatMeetsAnother","()I"⟩ : Cond) ∈ TW := tw_2 (List.mem_of_getElem? (i := 1) (by decide +kernel)) (by decide +kernel)
theorem q2_2 : (.privateMethod ⟨"Springleaf","firstThatMeetsAnother","()I"⟩ : Cond) ∈ TW := tw_2 (List.mem_of_getElem? (i := 2) (by decide +kernel)) (by decide +kernel)
theorem q2_3 : (.instanceMethod ⟨"Springleaf","firstThatMeetsAnother","()I"⟩ : Cond) ∈ TW := tw_2 (List.mem_of_getElem? (i := 3) (by decide +kernel)) (by decide +kernel)
theorem q2_4 : (.code ⟨"Springleaf","firstThatMeetsAnother","()I"⟩ prog_1_method_26_code 3 (some .int) : Cond) ∈ TW := tw_2 (List.mem_of_getElem? (i := 4) (by decide +kernel)) (by decide +kernel)
theorem q2_5 : (.classLink "Springleaf" 74 "Springleaf$Part" : Cond) ∈ TW := tw_2 (List.mem_of_getElem? (i := 5) (by decide +kernel)) (by decide +kernel)
theorem q2_6 : (.methodLink "Springleaf" 107 ⟨"Springleaf$Part","meets","(LSpringleaf$Part;)Z"⟩ : Cond) ∈ TW := tw_2 (List.mem_of_getElem? (i := 6) (by decide +kernel)) (by decide +kernel)
theorem q2_7 : (.instanceMethod ⟨"Springleaf$Part","meets","(LSpringleaf$Part;)Z"⟩ : Cond) ∈ TW := tw_2 (List.mem_of_getElem? (i := 7) (by decide +kernel)) (by decide +kernel)
theorem q2_8 : (.selects "Springleaf$Part" ⟨"Springleaf$Part","meets","(LSpringleaf$Part;)Z"⟩ ⟨"Springleaf$Part","meets","(LSpringleaf$Part;)Z"⟩ : Cond) ∈ TW := tw_2 (List.mem_of_getElem? (i := 8) (by decide +kernel)) (by decide +kernel)
theorem q2_9 : (.code ⟨"Springleaf$Part","meets","(LSpringleaf$Part;)Z"⟩ prog_3_method_8_code 2 (some .boolean) : Cond) ∈ TW := tw_2 (List.mem_of_getElem? (i := 9) (by decide +kernel)) (by decide +kernel)
theorem q2_10 : (.methodLink "Springleaf$Part" 53 ⟨"Springleaf$Part","sharesLineWith","(LSpringleaf$Part;)Z"⟩ : Cond) ∈ TW := tw_2 (List.mem_of_getElem? (i := 10) (by decide +kernel)) (by decide +kernel)
theorem q2_11 : (.instanceMethod ⟨"Springleaf$Part","sharesLineWith","(LSpringleaf$Part;)Z"⟩ : Cond) ∈ TW := tw_2 (List.mem_of_getElem? (i := 11) (by decide +kernel)) (by decide +kernel)
theorem q2_12 : (.selects "Springleaf$Part" ⟨"Springleaf$Part","sharesLineWith","(LSpringleaf$Part;)Z"⟩ ⟨"Springleaf$Part","sharesLineWith","(LSpringleaf$Part;)Z"⟩ : Cond) ∈ TW := tw_2 (List.mem_of_getElem? (i := 12) (by decide +kernel)) (by decide +kernel)
theorem q2_13 : (.code ⟨"Springleaf$Part","sharesLineWith","(LSpringleaf$Part;)Z"⟩ prog_3_method_7_code 2 (some .boolean) : Cond) ∈ TW := tw_2 (List.mem_of_getElem? (i := 13) (by decide +kernel)) (by decide +kernel)
theorem q2_14 : (.methodLink "Springleaf$Part" 57 ⟨"Springleaf$Part","spanStart","()I"⟩ : Cond) ∈ TW := tw_2 (List.mem_of_getElem? (i := 14) (by decide +kernel)) (by decide +kernel)
theorem q2_15 : (.instanceMethod ⟨"Springleaf$Part","spanStart","()I"⟩ : Cond) ∈ TW := tw_2 (List.mem_of_getElem? (i := 15) (by decide +kernel)) (by decide +kernel)
theorem q2_16 : (.selects "Springleaf$Part" ⟨"Springleaf$Part","spanStart","()I"⟩ ⟨"Springleaf$Part","spanStart","()I"⟩ : Cond) ∈ TW := tw_2 (List.mem_of_getElem? (i := 16) (by decide +kernel)) (by decide +kernel)
theorem q2_17 : (.code ⟨"Springleaf$Part","spanStart","()I"⟩ prog_3_method_5_code 1 (some .int) : Cond) ∈ TW := tw_2 (List.mem_of_getElem? (i := 17) (by decide +kernel)) (by decide +kernel)
theorem q2_18 : (.methodLink "Springleaf$Part" 46 ⟨"Springleaf$Part","reach","()I"⟩ : Cond) ∈ TW := tw_2 (List.mem_of_getElem? (i := 18) (by decide +kernel)) (by decide +kernel)
theorem q2_19 : (.instanceMethod ⟨"Springleaf$Part","reach","()I"⟩ : Cond) ∈ TW := tw_2 (List.mem_of_getElem? (i := 19) (by decide +kernel)) (by decide +kernel)
theorem q2_20 : (.selects "Springleaf$Part" ⟨"Springleaf$Part","reach","()I"⟩ ⟨"Springleaf$Part","reach","()I"⟩ : Cond) ∈ TW := tw_2 (List.mem_of_getElem? (i := 20) (by decide +kernel)) (by decide +kernel)
theorem q2_21 : (.code ⟨"Springleaf$Part","reach","()I"⟩ prog_3_method_4_code 1 (some .int) : Cond) ∈ TW := tw_2 (List.mem_of_getElem? (i := 21) (by decide +kernel)) (by decide +kernel)
theorem q2_22 : (.methodLink "Springleaf$Part" 40 ⟨"java/lang/Math","min","(II)I"⟩ : Cond) ∈ TW := tw_2 (List.mem_of_getElem? (i := 22) (by decide +kernel)) (by decide +kernel)
theorem q2_23 : (.methodLink "Springleaf$Part" 60 ⟨"Springleaf$Part","spanEnd","()I"⟩ : Cond) ∈ TW := tw_2 (List.mem_of_getElem? (i := 23) (by decide +kernel)) (by decide +kernel)
theorem q2_24 : (.instanceMethod ⟨"Springleaf$Part","spanEnd","()I"⟩ : Cond) ∈ TW := tw_2 (List.mem_of_getElem? (i := 24) (by decide +kernel)) (by decide +kernel)
theorem q2_25 : (.selects "Springleaf$Part" ⟨"Springleaf$Part","spanEnd","()I"⟩ ⟨"Springleaf$Part","spanEnd","()I"⟩ : Cond) ∈ TW := tw_2 (List.mem_of_getElem? (i := 25) (by decide +kernel)) (by decide +kernel)
theorem q2_26 : (.code ⟨"Springleaf$Part","spanEnd","()I"⟩ prog_3_method_6_code 1 (some .int) : Cond) ∈ TW := tw_2 (List.mem_of_getElem? (i := 26) (by decide +kernel)) (by decide +kernel)
theorem q2_27 : (.methodLink "Springleaf$Part" 50 ⟨"java/lang/Math","max","(II)I"⟩ : Cond) ∈ TW := tw_2 (List.mem_of_getElem? (i := 27) (by decide +kernel)) (by decide +kernel)
theorem q2_28 : (.methodLink "Springleaf$Part" 63 ⟨"Springleaf$Part","rise","()I"⟩ : Cond) ∈ TW := tw_2 (List.mem_of_getElem? (i := 28) (by decide +kernel)) (by decide +kernel)
theorem q2_29 : (.instanceMethod ⟨"Springleaf$Part","rise","()I"⟩ : Cond) ∈ TW := tw_2 (List.mem_of_getElem? (i := 29) (by decide +kernel)) (by decide +kernel)
theorem q2_30 : (.selects "Springleaf$Part" ⟨"Springleaf$Part","rise","()I"⟩ ⟨"Springleaf$Part","rise","()I"⟩ : Cond) ∈ TW := tw_2 (List.mem_of_getElem? (i := 30) (by decide +kernel)) (by decide +kernel)
theorem q2_31 : (.code ⟨"Springleaf$Part","rise","()I"⟩ prog_3_method_3_code 1 (some .int) : Cond) ∈ TW := tw_2 (List.mem_of_getElem? (i := 31) (by decide +kernel)) (by decide +kernel)
theorem q2_32 : (.methodLink "Springleaf$Part" 66 ⟨"java/lang/Math","abs","(I)I"⟩ : Cond) ∈ TW := tw_2 (List.mem_of_getElem? (i := 32) (by decide +kernel)) (by decide +kernel)
theorem q2_33 : (.static ⟨"java/lang/Math","abs","(I)I"⟩ : Cond) ∈ TW := tw_2 (List.mem_of_getElem? (i := 33) (by decide +kernel)) (by decide +kernel)
theorem q2_34 : (.code ⟨"java/lang/Math","abs","(I)I"⟩ prog_19_method_59_code 1 (some .int) : Cond) ∈ TW := tw_2 (List.mem_of_getElem? (i := 34) (by decide +kernel)) (by decide +kernel)
theorem q2_35 : (.methodLink "SpringleafLaw" 92 ⟨"Springleaf","sheets","()I"⟩ : Cond) ∈ TW := tw_2 (List.mem_of_getElem? (i := 35) (by decide +kernel)) (by decide +kernel)
theorem q2_36 : (.instanceMethod ⟨"Springleaf","sheets","()I"⟩ : Cond) ∈ TW := tw_2 (List.mem_of_getElem? (i := 36) (by decide +kernel)) (by decide +kernel)
theorem q2_37 : (.selects "Springleaf" ⟨"Springleaf","sheets","()I"⟩ ⟨"Springleaf","sheets","()I"⟩ : Cond) ∈ TW := tw_2 (List.mem_of_getElem? (i := 37) (by decide +kernel)) (by decide +kernel)
theorem q2_38 : (.code ⟨"Springleaf","sheets","()I"⟩ prog_1_method_9_code 1 (some .int) : Cond) ∈ TW := tw_2 (List.mem_of_getElem? (i := 38) (by decide +kernel)) (by decide +kernel)
theorem q2_39 : (.methodLink "Springleaf" 114 ⟨"Springleaf","layAllParts","()V"⟩ : Cond) ∈ TW := tw_2 (List.mem_of_getElem? (i := 39) (by decide +kernel)) (by decide +kernel)
theorem q2_40 : (.privateMethod ⟨"Springleaf","layAllParts","()V"⟩ : Cond) ∈ TW := tw_2 (List.mem_of_getElem? (i := 40) (by decide +kernel)) (by decide +kernel)
theorem q2_41 : (.instanceMethod ⟨"Springleaf","layAllParts","()V"⟩ : Cond) ∈ TW := tw_2 (List.mem_of_getElem? (i := 41) (by decide +kernel)) (by decide +kernel)
theorem q2_42 : (.code ⟨"Springleaf","layAllParts","()V"⟩ prog_1_method_31_code 2 none : Cond) ∈ TW := tw_2 (List.mem_of_getElem? (i := 42) (by decide +kernel)) (by decide +kernel)
theorem q2_43 : (.methodLink "Springleaf" 217 ⟨"Springleaf","lay","(LSpringleaf$Part;)V"⟩ : Cond) ∈ TW := tw_2 (List.mem_of_getElem? (i := 43) (by decide +kernel)) (by decide +kernel)
theorem q2_44 : (.privateMethod ⟨"Springleaf","lay","(LSpringleaf$Part;)V"⟩ : Cond) ∈ TW := tw_2 (List.mem_of_getElem? (i := 44) (by decide +kernel)) (by decide +kernel)
theorem q2_45 : (.instanceMethod ⟨"Springleaf","lay","(LSpringleaf$Part;)V"⟩ : Cond) ∈ TW := tw_2 (List.mem_of_getElem? (i := 45) (by decide +kernel)) (by decide +kernel)
theorem q2_46 : (.code ⟨"Springleaf","lay","(LSpringleaf$Part;)V"⟩ prog_1_method_32_code 3 none : Cond) ∈ TW := tw_2 (List.mem_of_getElem? (i := 46) (by decide +kernel)) (by decide +kernel)
theorem q2_47 : (.methodLink "Springleaf" 221 ⟨"Springleaf","firstOfShelfFor","(LSpringleaf$Part;)LSpringleaf$Part;"⟩ : Cond) ∈ TW := tw_2 (List.mem_of_getElem? (i := 47) (by decide +kernel)) (by decide +kernel)
theorem q2_48 : (.privateMethod ⟨"Springleaf","firstOfShelfFor","(LSpringleaf$Part;)LSpringleaf$Part;"⟩ : Cond) ∈ TW := tw_2 (List.mem_of_getElem? (i := 48) (by decide +kernel)) (by decide +kernel)
theorem q2_49 : (.instanceMethod ⟨"Springleaf","firstOfShelfFor","(LSpringleaf$Part;)LSpringleaf$Part;"⟩ : Cond) ∈ TW := tw_2 (List.mem_of_getElem? (i := 49) (by decide +kernel)) (by decide +kernel)
theorem q2_50 : (.code ⟨"Springleaf","firstOfShelfFor","(LSpringleaf$Part;)LSpringleaf$Part;"⟩ prog_1_method_33_code 5 (some (.object "Springleaf$Part")) : Cond) ∈ TW := tw_2 (List.mem_of_getElem? (i := 50) (by decide +kernel)) (by decide +kernel)
theorem q2_51 : (.methodLink "Springleaf" 234 ⟨"Springleaf$Part","pieceHeight","()I"⟩ : Cond) ∈ TW := tw_2 (List.mem_of_getElem? (i := 51) (by decide +kernel)) (by decide +kernel)
theorem q2_52 : (.instanceMethod ⟨"Springleaf$Part","pieceHeight","()I"⟩ : Cond) ∈ TW := tw_2 (List.mem_of_getElem? (i := 52) (by decide +kernel)) (by decide +kernel)
theorem q2_53 : (.selects "Springleaf$Part" ⟨"Springleaf$Part","pieceHeight","()I"⟩ ⟨"Springleaf$Part","pieceHeight","()I"⟩ : Cond) ∈ TW := tw_2 (List.mem_of_getElem? (i := 53) (by decide +kernel)) (by decide +kernel)
theorem q2_54 : (.code ⟨"Springleaf$Part","pieceHeight","()I"⟩ prog_3_method_11_code 1 (some .int) : Cond) ∈ TW := tw_2 (List.mem_of_getElem? (i := 54) (by decide +kernel)) (by decide +kernel)
theorem q2_55 : (.methodLink "Springleaf" 231 ⟨"Springleaf$Part","pieceWidth","()I"⟩ : Cond) ∈ TW := tw_2 (List.mem_of_getElem? (i := 55) (by decide +kernel)) (by decide +kernel)
theorem q2_56 : (.instanceMethod ⟨"Springleaf$Part","pieceWidth","()I"⟩ : Cond) ∈ TW := tw_2 (List.mem_of_getElem? (i := 56) (by decide +kernel)) (by decide +kernel)
theorem q2_57 : (.selects "Springleaf$Part" ⟨"Springleaf$Part","pieceWidth","()I"⟩ ⟨"Springleaf$Part","pieceWidth","()I"⟩ : Cond) ∈ TW := tw_2 (List.mem_of_getElem? (i := 57) (by decide +kernel)) (by decide +kernel)
theorem q2_58 : (.code ⟨"Springleaf$Part","pieceWidth","()I"⟩ prog_3_method_10_code 1 (some .int) : Cond) ∈ TW := tw_2 (List.mem_of_getElem? (i := 58) (by decide +kernel)) (by decide +kernel)
theorem q2_59 : (.methodLink "Springleaf" 225 ⟨"Springleaf","beginShelf","(LSpringleaf$Part;)V"⟩ : Cond) ∈ TW := tw_2 (List.mem_of_getElem? (i := 59) (by decide +kernel)) (by decide +kernel)
theorem q2_60 : (.privateMethod ⟨"Springleaf","beginShelf","(LSpringleaf$Part;)V"⟩ : Cond) ∈ TW := tw_2 (List.mem_of_getElem? (i := 60) (by decide +kernel)) (by decide +kernel)
theorem q2_61 : (.instanceMethod ⟨"Springleaf","beginShelf","(LSpringleaf$Part;)V"⟩ : Cond) ∈ TW := tw_2 (List.mem_of_getElem? (i := 61) (by decide +kernel)) (by decide +kernel)
theorem q2_62 : (.code ⟨"Springleaf","beginShelf","(LSpringleaf$Part;)V"⟩ prog_1_method_34_code 2 none : Cond) ∈ TW := tw_2 (List.mem_of_getElem? (i := 62) (by decide +kernel)) (by decide +kernel)
theorem q2_63 : (.methodLink "Springleaf" 237 ⟨"Springleaf","sheetForShelf","(I)I"⟩ : Cond) ∈ TW := tw_2 (List.mem_of_getElem? (i := 63) (by decide +kernel)) (by decide +kernel)
theorem q2_64 : (.privateMethod ⟨"Springleaf","sheetForShelf","(I)I"⟩ : Cond) ∈ TW := tw_2 (List.mem_of_getElem? (i := 64) (by decide +kernel)) (by decide +kernel)
theorem q2_65 : (.instanceMethod ⟨"Springleaf","sheetForShelf","(I)I"⟩ : Cond) ∈ TW := tw_2 (List.mem_of_getElem? (i := 65) (by decide +kernel)) (by decide +kernel)
theorem q2_66 : (.code ⟨"Springleaf","sheetForShelf","(I)I"⟩ prog_1_method_35_code 3 (some .int) : Cond) ∈ TW := tw_2 (List.mem_of_getElem? (i := 66) (by decide +kernel)) (by decide +kernel)
theorem q2_67 : (.methodLink "Springleaf" 240 ⟨"Springleaf","filledHeight","(I)I"⟩ : Cond) ∈ TW := tw_2 (List.mem_of_getElem? (i := 67) (by decide +kernel)) (by decide +kernel)
theorem q2_68 : (.privateMethod ⟨"Springleaf","filledHeight","(I)I"⟩ : Cond) ∈ TW := tw_2 (List.mem_of_getElem? (i := 68) (by decide +kernel)) (by decide +kernel)
theorem q2_69 : (.instanceMethod ⟨"Springleaf","filledHeight","(I)I"⟩ : Cond) ∈ TW := tw_2 (List.mem_of_getElem? (i := 69) (by decide +kernel)) (by decide +kernel)
theorem q2_70 : (.code ⟨"Springleaf","filledHeight","(I)I"⟩ prog_1_method_36_code 4 (some .int) : Cond) ∈ TW := tw_2 (List.mem_of_getElem? (i := 70) (by decide +kernel)) (by decide +kernel)
theorem q2_71 : (.methodLink "SpringleafLaw" 113 ⟨"Springleaf","isBound","()Z"⟩ : Cond) ∈ TW := tw_2 (List.mem_of_getElem? (i := 71) (by decide +kernel)) (by decide +kernel)
theorem q2_72 : (.instanceMethod ⟨"Springleaf","isBound","()Z"⟩ : Cond) ∈ TW := tw_2 (List.mem_of_getElem? (i := 72) (by decide +kernel)) (by decide +kernel)
theorem q2_73 : (.selects "Springleaf" ⟨"Springleaf","isBound","()Z"⟩ ⟨"Springleaf","isBound","()Z"⟩ : Cond) ∈ TW := tw_2 (List.mem_of_getElem? (i := 73) (by decide +kernel)) (by decide +kernel)
theorem q2_74 : (.code ⟨"Springleaf","isBound","()Z"⟩ prog_1_method_15_code 1 (some .boolean) : Cond) ∈ TW := tw_2 (List.mem_of_getElem? (i := 74) (by decide +kernel)) (by decide +kernel)
theorem q2_75 : (.methodLink "Springleaf" 165 ⟨"java/util/ArrayList","isEmpty","()Z"⟩ : Cond) ∈ TW := tw_2 (List.mem_of_getElem? (i := 75) (by decide +kernel)) (by decide +kernel)
theorem q2_76 : (.instanceMethod ⟨"java/util/ArrayList","isEmpty","()Z"⟩ : Cond) ∈ TW := tw_2 (List.mem_of_getElem? (i := 76) (by decide +kernel)) (by decide +kernel)
theorem q2_77 : (.selects "java/util/ArrayList" ⟨"java/util/ArrayList","isEmpty","()Z"⟩ ⟨"java/util/ArrayList","isEmpty","()Z"⟩ : Cond) ∈ TW := tw_2 (List.mem_of_getElem? (i := 77) (by decide +kernel)) (by decide +kernel)
theorem q2_78 : (.code ⟨"java/util/ArrayList","isEmpty","()Z"⟩ prog_33_method_9_code 1 (some .boolean) : Cond) ∈ TW := tw_2 (List.mem_of_getElem? (i := 78) (by decide +kernel)) (by decide +kernel)
theorem q2_79 : (.methodLink "Springleaf" 168 ⟨"Springleaf","test","()I"⟩ : Cond) ∈ TW := tw_2 (List.mem_of_getElem? (i := 79) (by decide +kernel)) (by decide +kernel)
theorem q2_80 : (.methodLink "SpringleafLaw" 62 ⟨"SpringleafLaw","fold","(LSpringleaf;III[J)I"⟩ : Cond) ∈ TW := tw_2 (List.mem_of_getElem? (i := 80) (by decide +kernel)) (by decide +kernel)
theorem q2_81 : (.static ⟨"SpringleafLaw","fold","(LSpringleaf;III[J)I"⟩ : Cond) ∈ TW := tw_2 (List.mem_of_getElem? (i := 81) (by decide +kernel)) (by decide +kernel)
theorem q2_82 : (.codeWith ⟨"SpringleafLaw","fold","(LSpringleaf;III[J)I"⟩ method_3_code 6 (some .int) [(0, 12, 15, 13), (0, 12, 19, 15), (0, 12, 23, 17)] : Cond) ∈ TW := tw_2 (List.mem_of_getElem? (i := 82) (by decide +kernel)) (by decide +kernel)
theorem q2_83 : (.classLink "SpringleafLaw" 13 "java/lang/IndexOutOfBoundsException" : Cond) ∈ TW := tw_2 (List.mem_of_getElem? (i := 83) (by decide +kernel)) (by decide +kernel)
theorem q2_84 : (.classLink "SpringleafLaw" 15 "java/lang/IllegalArgumentException" : Cond) ∈ TW := tw_2 (List.mem_of_getElem? (i := 84) (by decide +kernel)) (by decide +kernel)
theorem q2_85 : (.classLink "SpringleafLaw" 17 "java/lang/IllegalStateException" : Cond) ∈ TW := tw_2 (List.mem_of_getElem? (i := 85) (by decide +kernel)) (by decide +kernel)
theorem q2_86 : (.methodLink "SpringleafLaw" 7 ⟨"Springleaf","fold","(III)I"⟩ : Cond) ∈ TW := tw_2 (List.mem_of_getElem? (i := 86) (by decide +kernel)) (by decide +kernel)
theorem q2_87 : (.instanceMethod ⟨"Springleaf","fold","(III)I"⟩ : Cond) ∈ TW := tw_2 (List.mem_of_getElem? (i := 87) (by decide +kernel)) (by decide +kernel)
theorem q2_88 : (.selects "Springleaf" ⟨"Springleaf","fold","(III)I"⟩ ⟨"Springleaf","fold","(III)I"⟩ : Cond) ∈ TW := tw_2 (List.mem_of_getElem? (i := 88) (by decide +kernel)) (by decide +kernel)
theorem q2_89 : (.code ⟨"Springleaf","fold","(III)I"⟩ prog_1_method_2_code 4 (some .int) : Cond) ∈ TW := tw_2 (List.mem_of_getElem? (i := 89) (by decide +kernel)) (by decide +kernel)
theorem q2_90 : (.methodLink "Springleaf" 35 ⟨"Springleaf","requireFold","(I)V"⟩ : Cond) ∈ TW := tw_2 (List.mem_of_getElem? (i := 90) (by decide +kernel)) (by decide +kernel)
theorem q2_91 : (.privateMethod ⟨"Springleaf","requireFold","(I)V"⟩ : Cond) ∈ TW := tw_2 (List.mem_of_getElem? (i := 91) (by decide +kernel)) (by decide +kernel)
theorem q2_92 : (.instanceMethod ⟨"Springleaf","requireFold","(I)V"⟩ : Cond) ∈ TW := tw_2 (List.mem_of_getElem? (i := 92) (by decide +kernel)) (by decide +kernel)
theorem q2_93 : (.code ⟨"Springleaf","requireFold","(I)V"⟩ prog_1_method_17_code 2 none : Cond) ∈ TW := tw_2 (List.mem_of_getElem? (i := 93) (by decide +kernel)) (by decide +kernel)
theorem q2_94 : (.methodLink "Springleaf" 39 ⟨"Springleaf","isOutside","(III)Z"⟩ : Cond) ∈ TW := tw_2 (List.mem_of_getElem? (i := 94) (by decide +kernel)) (by decide +kernel)
theorem q2_95 : (.static ⟨"Springleaf","isOutside","(III)Z"⟩ : Cond) ∈ TW := tw_2 (List.mem_of_getElem? (i := 95) (by decide +kernel)) (by decide +kernel)
theorem q2_96 : (.code ⟨"Springleaf","isOutside","(III)Z"⟩ prog_1_method_22_code 3 (some .boolean) : Cond) ∈ TW := tw_2 (List.mem_of_getElem? (i := 96) (by decide +kernel)) (by decide +kernel)
theorem q2_97 : (.classLink "Springleaf" 157 "java/lang/IndexOutOfBoundsException" : Cond) ∈ TW := tw_2 (List.mem_of_getElem? (i := 97) (by decide +kernel)) (by decide +kernel)
theorem q2_98 : (.instantiable "java/lang/IndexOutOfBoundsException" 6 : Cond) ∈ TW := tw_2 (List.mem_of_getElem? (i := 98) (by decide +kernel)) (by decide +kernel)
theorem q2_99 : (.castable "java/lang/IndexOutOfBoundsException" "java/lang/IndexOutOfBoundsException" : Cond) ∈ TW := tw_2 (List.mem_of_getElem? (i := 99) (by decide +kernel)) (by decide +kernel)
theorem q2_100 : (.declares ⟨"java/lang/RuntimeException","<init>","()V"⟩ : Cond) ∈ TW := tw_2 (List.mem_of_getElem? (i := 100) (by decide +kernel)) (by decide +kernel)
theorem q2_101 : (.declares ⟨"java/lang/RuntimeException","<init>","(Ljava/lang/String;)V"⟩ : Cond) ∈ TW := tw_2 (List.mem_of_getElem? (i := 101) (by decide +kernel)) (by decide +kernel)
theorem q2_102 : (.declares ⟨"java/lang/Exception","<init>","()V"⟩ : Cond) ∈ TW := tw_2 (List.mem_of_getElem? (i := 102) (by decide +kernel)) (by decide +kernel)
theorem q2_103 : (.declares ⟨"java/lang/Exception","<init>","(Ljava/lang/String;)V"⟩ : Cond) ∈ TW := tw_2 (List.mem_of_getElem? (i := 103) (by decide +kernel)) (by decide +kernel)
theorem q2_104 : (.declares ⟨"java/lang/Throwable","<init>","()V"⟩ : Cond) ∈ TW := tw_2 (List.mem_of_getElem? (i := 104) (by decide +kernel)) (by decide +kernel)
theorem q2_105 : (.declares ⟨"java/lang/Throwable","<init>","(Ljava/lang/String;)V"⟩ : Cond) ∈ TW := tw_2 (List.mem_of_getElem? (i := 105) (by decide +kernel)) (by decide +kernel)
theorem q2_106 : (.selects "java/lang/IndexOutOfBoundsException" ⟨"java/lang/Throwable","fillInStackTrace","(I)Ljava/lang/Throwable;"⟩ ⟨"java/lang/Throwable","fillInStackTrace","(I)Ljava/lang/Throwable;"⟩ : Cond) ∈ TW := tw_2 (List.mem_of_getElem? (i := 106) (by decide +kernel)) (by decide +kernel)
theorem q2_107 : (.selects "java/lang/IndexOutOfBoundsException" ⟨"java/lang/Throwable","fillInStackTrace","()Ljava/lang/Throwable;"⟩ ⟨"java/lang/Throwable","fillInStackTrace","()Ljava/lang/Throwable;"⟩ : Cond) ∈ TW := tw_2 (List.mem_of_getElem? (i := 107) (by decide +kernel)) (by decide +kernel)
theorem q2_108 : (.lays "java/lang/IndexOutOfBoundsException" "java/lang/Throwable" "cause" "Ljava/lang/Throwable;" : Cond) ∈ TW := tw_2 (List.mem_of_getElem? (i := 108) (by decide +kernel)) (by decide +kernel)
theorem q2_109 : (.lays "java/lang/Throwable" "java/lang/Throwable" "cause" "Ljava/lang/Throwable;" : Cond) ∈ TW := tw_2 (List.mem_of_getElem? (i := 109) (by decide +kernel)) (by decide +kernel)
theorem q2_110 : (.lays "java/lang/IndexOutOfBoundsException" "java/lang/Throwable" "stackTrace" "[Ljava/lang/StackTraceElement;" : Cond) ∈ TW := tw_2 (List.mem_of_getElem? (i := 110) (by decide +kernel)) (by decide +kernel)
theorem q2_111 : (.lays "java/lang/Throwable" "java/lang/Throwable" "stackTrace" "[Ljava/lang/StackTraceElement;" : Cond) ∈ TW := tw_2 (List.mem_of_getElem? (i := 111) (by decide +kernel)) (by decide +kernel)
theorem q2_112 : (.lays "java/lang/IndexOutOfBoundsException" "java/lang/Throwable" "suppressedExceptions" "Ljava/util/List;" : Cond) ∈ TW := tw_2 (List.mem_of_getElem? (i := 112) (by decide +kernel)) (by decide +kernel)
theorem q2_113 : (.lays "java/lang/Throwable" "java/lang/Throwable" "suppressedExceptions" "Ljava/util/List;" : Cond) ∈ TW := tw_2 (List.mem_of_getElem? (i := 113) (by decide +kernel)) (by decide +kernel)
theorem q2_114 : (.lays "java/lang/IndexOutOfBoundsException" "java/lang/Throwable" "detailMessage" "Ljava/lang/String;" : Cond) ∈ TW := tw_2 (List.mem_of_getElem? (i := 114) (by decide +kernel)) (by decide +kernel)
theorem q2_115 : (.lays "java/lang/Throwable" "java/lang/Throwable" "detailMessage" "Ljava/lang/String;" : Cond) ∈ TW := tw_2 (List.mem_of_getElem? (i := 115) (by decide +kernel)) (by decide +kernel)
theorem q2_116 : (.lays "java/lang/IndexOutOfBoundsException" "java/lang/Throwable" "backtrace" "Ljava/lang/Object;" : Cond) ∈ TW := tw_2 (List.mem_of_getElem? (i := 116) (by decide +kernel)) (by decide +kernel)
theorem q2_117 : (.lays "java/lang/Throwable" "java/lang/Throwable" "backtrace" "Ljava/lang/Object;" : Cond) ∈ TW := tw_2 (List.mem_of_getElem? (i := 117) (by decide +kernel)) (by decide +kernel)
theorem q2_118 : (.fieldLink "java/lang/Throwable" 198 "java/lang/Throwable" "backtrace" "Ljava/lang/Object;" : Cond) ∈ TW := tw_2 (List.mem_of_getElem? (i := 118) (by decide +kernel)) (by decide +kernel)
theorem q2_119 : (.superclass "java/lang/Throwable" "java/lang/Object" : Cond) ∈ TW := tw_2 (List.mem_of_getElem? (i := 119) (by decide +kernel)) (by decide +kernel)
theorem q2_120 : (.instanceMethod ⟨"java/lang/Throwable","<init>","()V"⟩ : Cond) ∈ TW := tw_2 (List.mem_of_getElem? (i := 120) (by decide +kernel)) (by decide +kernel)
theorem q2_121 : (.code ⟨"java/lang/Throwable","<init>","()V"⟩ prog_28_method_1_code 1 none : Cond) ∈ TW := tw_2 (List.mem_of_getElem? (i := 121) (by decide +kernel)) (by decide +kernel)
theorem q2_122 : (.methodLink "java/lang/Throwable" 1 ⟨"java/lang/Object","<init>","()V"⟩ : Cond) ∈ TW := tw_2 (List.mem_of_getElem? (i := 122) (by decide +kernel)) (by decide +kernel)
theorem q2_123 : (.fieldLink "java/lang/Throwable" 13 "java/lang/Throwable" "UNASSIGNED_STACK" "[Ljava/lang/StackTraceElement;" : Cond) ∈ TW := tw_2 (List.mem_of_getElem? (i := 123) (by decide +kernel)) (by decide +kernel)
theorem q2_125 : (.fieldLink "java/lang/Throwable" 20 "java/lang/Throwable" "SUPPRESSED_SENTINEL" "Ljava/util/List;" : Cond) ∈ TW := tw_2 (List.mem_of_getElem? (i := 125) (by decide +kernel)) (by decide +kernel)
theorem q2_127 : (.methodLink "java/lang/Throwable" 27 ⟨"java/lang/Throwable","fillInStackTrace","()Ljava/lang/Throwable;"⟩ : Cond) ∈ TW := tw_2 (List.mem_of_getElem? (i := 127) (by decide +kernel)) (by decide +kernel)
theorem q2_128 : (.instanceMethod ⟨"java/lang/Throwable","fillInStackTrace","()Ljava/lang/Throwable;"⟩ : Cond) ∈ TW := tw_2 (List.mem_of_getElem? (i := 128) (by decide +kernel)) (by decide +kernel)
theorem q2_129 : (.sameMethod "java/lang/Throwable" "java/lang/Throwable" "fillInStackTrace" "()Ljava/lang/Throwable;" : Cond) ∈ TW := tw_2 (List.mem_of_getElem? (i := 129) (by decide +kernel)) (by decide +kernel)
theorem q2_130 : (.selects "java/lang/ArrayIndexOutOfBoundsException" ⟨"java/lang/Throwable","fillInStackTrace","()Ljava/lang/Throwable;"⟩ ⟨"java/lang/Throwable","fillInStackTrace","()Ljava/lang/Throwable;"⟩ : Cond) ∈ TW := tw_2 (List.mem_of_getElem? (i := 130) (by decide +kernel)) (by decide +kernel)
theorem q2_131 : (.selects "java/lang/IllegalArgumentException" ⟨"java/lang/Throwable","fillInStackTrace","()Ljava/lang/Throwable;"⟩ ⟨"java/lang/Throwable","fillInStackTrace","()Ljava/lang/Throwable;"⟩ : Cond) ∈ TW := tw_2 (List.mem_of_getElem? (i := 131) (by decide +kernel)) (by decide +kernel)
theorem q2_132 : (.selects "java/lang/IllegalStateException" ⟨"java/lang/Throwable","fillInStackTrace","()Ljava/lang/Throwable;"⟩ ⟨"java/lang/Throwable","fillInStackTrace","()Ljava/lang/Throwable;"⟩ : Cond) ∈ TW := tw_2 (List.mem_of_getElem? (i := 132) (by decide +kernel)) (by decide +kernel)
theorem q2_133 : (.selects "java/lang/StringIndexOutOfBoundsException" ⟨"java/lang/Throwable","fillInStackTrace","()Ljava/lang/Throwable;"⟩ ⟨"java/lang/Throwable","fillInStackTrace","()Ljava/lang/Throwable;"⟩ : Cond) ∈ TW := tw_2 (List.mem_of_getElem? (i := 133) (by decide +kernel)) (by decide +kernel)
theorem q2_134 : (.codeSync ⟨"java/lang/Throwable","fillInStackTrace","()Ljava/lang/Throwable;"⟩ prog_28_method_18_code 1 (some (.object "java/lang/Throwable")) : Cond) ∈ TW := tw_2 (List.mem_of_getElem? (i := 134) (by decide +kernel)) (by decide +kernel)
theorem q2_135 : (.methodLink "java/lang/Throwable" 202 ⟨"java/lang/Throwable","fillInStackTrace","(I)Ljava/lang/Throwable;"⟩ : Cond) ∈ TW := tw_2 (List.mem_of_getElem? (i := 135) (by decide +kernel)) (by decide +kernel)
theorem q2_136 : (.privateMethod ⟨"java/lang/Throwable","fillInStackTrace","(I)Ljava/lang/Throwable;"⟩ : Cond) ∈ TW := tw_2 (List.mem_of_getElem? (i := 136) (by decide +kernel)) (by decide +kernel)
theorem q2_137 : (.instanceMethod ⟨"java/lang/Throwable","fillInStackTrace","(I)Ljava/lang/Throwable;"⟩ : Cond) ∈ TW := tw_2 (List.mem_of_getElem? (i := 137) (by decide +kernel)) (by decide +kernel)
theorem q2_138 : (.instantiable "java/lang/Throwable" 6 : Cond) ∈ TW := tw_2 (List.mem_of_getElem? (i := 138) (by decide +kernel)) (by decide +kernel)
theorem q2_139 : (.native ⟨"java/lang/Throwable","fillInStackTrace","(I)Ljava/lang/Throwable;"⟩ : Cond) ∈ TW := tw_2 (List.mem_of_getElem? (i := 139) (by decide +kernel)) (by decide +kernel)
theorem q2_141 : (.methodLink "Springleaf" 161 ⟨"java/lang/IndexOutOfBoundsException","<init>","(Ljava/lang/String;)V"⟩ : Cond) ∈ TW := tw_2 (List.mem_of_getElem? (i := 141) (by decide +kernel)) (by decide +kernel)
theorem q2_142 : (.instanceMethod ⟨"java/lang/IndexOutOfBoundsException","<init>","(Ljava/lang/String;)V"⟩ : Cond) ∈ TW := tw_2 (List.mem_of_getElem? (i := 142) (by decide +kernel)) (by decide +kernel)
theorem q2_143 : (.code ⟨"java/lang/IndexOutOfBoundsException","<init>","(Ljava/lang/String;)V"⟩ prog_16_method_2_code 2 none : Cond) ∈ TW := tw_2 (List.mem_of_getElem? (i := 143) (by decide +kernel)) (by decide +kernel)
theorem q2_144 : (.methodLink "java/lang/IndexOutOfBoundsException" 7 ⟨"java/lang/RuntimeException","<init>","(Ljava/lang/String;)V"⟩ : Cond) ∈ TW := tw_2 (List.mem_of_getElem? (i := 144) (by decide +kernel)) (by decide +kernel)
theorem q2_145 : (.instanceMethod ⟨"java/lang/RuntimeException","<init>","(Ljava/lang/String;)V"⟩ : Cond) ∈ TW := tw_2 (List.mem_of_getElem? (i := 145) (by decide +kernel)) (by decide +kernel)
theorem q2_146 : (.code ⟨"java/lang/RuntimeException","<init>","(Ljava/lang/String;)V"⟩ prog_21_method_2_code 2 none : Cond) ∈ TW := tw_2 (List.mem_of_getElem? (i := 146) (by decide +kernel)) (by decide +kernel)
theorem q2_147 : (.methodLink "java/lang/RuntimeException" 7 ⟨"java/lang/Exception","<init>","(Ljava/lang/String;)V"⟩ : Cond) ∈ TW := tw_2 (List.mem_of_getElem? (i := 147) (by decide +kernel)) (by decide +kernel)
theorem q2_148 : (.instanceMethod ⟨"java/lang/Exception","<init>","(Ljava/lang/String;)V"⟩ : Cond) ∈ TW := tw_2 (List.mem_of_getElem? (i := 148) (by decide +kernel)) (by decide +kernel)
theorem q2_149 : (.code ⟨"java/lang/Exception","<init>","(Ljava/lang/String;)V"⟩ prog_13_method_2_code 2 none : Cond) ∈ TW := tw_2 (List.mem_of_getElem? (i := 149) (by decide +kernel)) (by decide +kernel)
theorem q2_150 : (.methodLink "java/lang/Exception" 7 ⟨"java/lang/Throwable","<init>","(Ljava/lang/String;)V"⟩ : Cond) ∈ TW := tw_2 (List.mem_of_getElem? (i := 150) (by decide +kernel)) (by decide +kernel)
theorem q2_151 : (.instanceMethod ⟨"java/lang/Throwable","<init>","(Ljava/lang/String;)V"⟩ : Cond) ∈ TW := tw_2 (List.mem_of_getElem? (i := 151) (by decide +kernel)) (by decide +kernel)
theorem q2_152 : (.code ⟨"java/lang/Throwable","<init>","(Ljava/lang/String;)V"⟩ prog_28_method_2_code 2 none : Cond) ∈ TW := tw_2 (List.mem_of_getElem? (i := 152) (by decide +kernel)) (by decide +kernel)
theorem q2_153 : (.fieldLink "java/lang/Throwable" 198 "java/lang/Throwable" "backtrace" "Ljava/lang/Object;" : Cond) ∈ TW := tw_2 (List.mem_of_getElem? (i := 153) (by decide +kernel)) (by decide +kernel)
theorem q2_154 : (.fieldLink "java/lang/Throwable" 31 "java/lang/Throwable" "detailMessage" "Ljava/lang/String;" : Cond) ∈ TW := tw_2 (List.mem_of_getElem? (i := 154) (by decide +kernel)) (by decide +kernel)
theorem q2_155 : (.fieldLink "java/lang/Throwable" 7 "java/lang/Throwable" "cause" "Ljava/lang/Throwable;" : Cond) ∈ TW := tw_2 (List.mem_of_getElem? (i := 155) (by decide +kernel)) (by decide +kernel)
theorem q2_156 : (.fieldLink "java/lang/Throwable" 17 "java/lang/Throwable" "stackTrace" "[Ljava/lang/StackTraceElement;" : Cond) ∈ TW := tw_2 (List.mem_of_getElem? (i := 156) (by decide +kernel)) (by decide +kernel)
theorem q2_157 : (.fieldLink "java/lang/Throwable" 24 "java/lang/Throwable" "suppressedExceptions" "Ljava/util/List;" : Cond) ∈ TW := tw_2 (List.mem_of_getElem? (i := 157) (by decide +kernel)) (by decide +kernel)
theorem q2_158 : (.soleField "java/lang/Throwable" "backtrace" : Cond) ∈ TW := tw_2 (List.mem_of_getElem? (i := 158) (by decide +kernel)) (by decide +kernel)
theorem q2_159 : (.soleField "java/lang/Throwable" "detailMessage" : Cond) ∈ TW := tw_2 (List.mem_of_getElem? (i := 159) (by decide +kernel)) (by decide +kernel)
theorem q2_160 : (.soleField "java/lang/Throwable" "cause" : Cond) ∈ TW := tw_2 (List.mem_of_getElem? (i := 160) (by decide +kernel)) (by decide +kernel)
theorem q2_161 : (.soleField "java/lang/Throwable" "stackTrace" : Cond) ∈ TW := tw_2 (List.mem_of_getElem? (i := 161) (by decide +kernel)) (by decide +kernel)
theorem q2_162 : (.lays "java/lang/IndexOutOfBoundsException" "java/lang/Throwable" "depth" "I" : Cond) ∈ TW := tw_2 (List.mem_of_getElem? (i := 162) (by decide +kernel)) (by decide +kernel)
theorem q2_163 : (.soleField "java/lang/Throwable" "depth" : Cond) ∈ TW := tw_2 (List.mem_of_getElem? (i := 163) (by decide +kernel)) (by decide +kernel)
theorem q2_164 : (.soleField "java/lang/Throwable" "suppressedExceptions" : Cond) ∈ TW := tw_2 (List.mem_of_getElem? (i := 164) (by decide +kernel)) (by decide +kernel)
theorem q2_165 : (.superclass "java/lang/IndexOutOfBoundsException" "java/lang/RuntimeException" : Cond) ∈ TW := tw_2 (List.mem_of_getElem? (i := 165) (by decide +kernel)) (by decide +kernel)
theorem q2_166 : (.classLink "Springleaf" 43 "java/lang/IllegalArgumentException" : Cond) ∈ TW := tw_2 (List.mem_of_getElem? (i := 166) (by decide +kernel)) (by decide +kernel)
theorem q2_167 : (.instantiable "java/lang/IllegalArgumentException" 6 : Cond) ∈ TW := tw_2 (List.mem_of_getElem? (i := 167) (by decide +kernel)) (by decide +kernel)
theorem q2_168 : (.castable "java/lang/IllegalArgumentException" "java/lang/IllegalArgumentException" : Cond) ∈ TW := tw_2 (List.mem_of_getElem? (i := 168) (by decide +kernel)) (by decide +kernel)
theorem q2_169 : (.selects "java/lang/IllegalArgumentException" ⟨"java/lang/Throwable","fillInStackTrace","(I)Ljava/lang/Throwable;"⟩ ⟨"java/lang/Throwable","fillInStackTrace","(I)Ljava/lang/Throwable;"⟩ : Cond) ∈ TW := tw_2 (List.mem_of_getElem? (i := 169) (by decide +kernel)) (by decide +kernel)
theorem q2_170 : (.lays "java/lang/IllegalArgumentException" "java/lang/Throwable" "cause" "Ljava/lang/Throwable;" : Cond) ∈ TW := tw_2 (List.mem_of_getElem? (i := 170) (by decide +kernel)) (by decide +kernel)
theorem q2_171 : (.lays "java/lang/IllegalArgumentException" "java/lang/Throwable" "stackTrace" "[Ljava/lang/StackTraceElement;" : Cond) ∈ TW := tw_2 (List.mem_of_getElem? (i := 171) (by decide +kernel)) (by decide +kernel)
theorem q2_172 : (.lays "java/lang/IllegalArgumentException" "java/lang/Throwable" "suppressedExceptions" "Ljava/util/List;" : Cond) ∈ TW := tw_2 (List.mem_of_getElem? (i := 172) (by decide +kernel)) (by decide +kernel)
theorem q2_173 : (.lays "java/lang/IllegalArgumentException" "java/lang/Throwable" "detailMessage" "Ljava/lang/String;" : Cond) ∈ TW := tw_2 (List.mem_of_getElem? (i := 173) (by decide +kernel)) (by decide +kernel)
theorem q2_174 : (.lays "java/lang/IllegalArgumentException" "java/lang/Throwable" "backtrace" "Ljava/lang/Object;" : Cond) ∈ TW := tw_2 (List.mem_of_getElem? (i := 174) (by decide +kernel)) (by decide +kernel)
theorem q2_176 : (.methodLink "Springleaf" 47 ⟨"java/lang/IllegalArgumentException","<init>","(Ljava/lang/String;)V"⟩ : Cond) ∈ TW := tw_2 (List.mem_of_getElem? (i := 176) (by decide +kernel)) (by decide +kernel)
theorem q2_177 : (.instanceMethod ⟨"java/lang/IllegalArgumentException","<init>","(Ljava/lang/String;)V"⟩ : Cond) ∈ TW := tw_2 (List.mem_of_getElem? (i := 177) (by decide +kernel)) (by decide +kernel)
theorem q2_178 : (.code ⟨"java/lang/IllegalArgumentException","<init>","(Ljava/lang/String;)V"⟩ prog_14_method_2_code 2 none : Cond) ∈ TW := tw_2 (List.mem_of_getElem? (i := 178) (by decide +kernel)) (by decide +kernel)
theorem q2_179 : (.methodLink "java/lang/IllegalArgumentException" 7 ⟨"java/lang/RuntimeException","<init>","(Ljava/lang/String;)V"⟩ : Cond) ∈ TW := tw_2 (List.mem_of_getElem? (i := 179) (by decide +kernel)) (by decide +kernel)
theorem q2_180 : (.lays "java/lang/IllegalArgumentException" "java/lang/Throwable" "depth" "I" : Cond) ∈ TW := tw_2 (List.mem_of_getElem? (i := 180) (by decide +kernel)) (by decide +kernel)
theorem q2_181 : (.superclass "java/lang/IllegalArgumentException" "java/lang/RuntimeException" : Cond) ∈ TW := tw_2 (List.mem_of_getElem? (i := 181) (by decide +kernel)) (by decide +kernel)
theorem q2_182 : (.methodLink "Springleaf" 54 ⟨"Springleaf","isBound","()Z"⟩ : Cond) ∈ TW := tw_2 (List.mem_of_getElem? (i := 182) (by decide +kernel)) (by decide +kernel)
theorem q2_183 : (.classLink "Springleaf" 58 "java/lang/IllegalStateException" : Cond) ∈ TW := tw_2 (List.mem_of_getElem? (i := 183) (by decide +kernel)) (by decide +kernel)
theorem q2_184 : (.instantiable "java/lang/IllegalStateException" 6 : Cond) ∈ TW := tw_2 (List.mem_of_getElem? (i := 184) (by decide +kernel)) (by decide +kernel)
theorem q2_185 : (.castable "java/lang/IllegalStateException" "java/lang/IllegalStateException" : Cond) ∈ TW := tw_2 (List.mem_of_getElem? (i := 185) (by decide +kernel)) (by decide +kernel)
theorem q2_186 : (.selects "java/lang/IllegalStateException" ⟨"java/lang/Throwable","fillInStackTrace","(I)Ljava/lang/Throwable;"⟩ ⟨"java/lang/Throwable","fillInStackTrace","(I)Ljava/lang/Throwable;"⟩ : Cond) ∈ TW := tw_2 (List.mem_of_getElem? (i := 186) (by decide +kernel)) (by decide +kernel)
theorem q2_187 : (.lays "java/lang/IllegalStateException" "java/lang/Throwable" "cause" "Ljava/lang/Throwable;" : Cond) ∈ TW := tw_2 (List.mem_of_getElem? (i := 187) (by decide +kernel)) (by decide +kernel)
theorem q2_188 : (.lays "java/lang/IllegalStateException" "java/lang/Throwable" "stackTrace" "[Ljava/lang/StackTraceElement;" : Cond) ∈ TW := tw_2 (List.mem_of_getElem? (i := 188) (by decide +kernel)) (by decide +kernel)
theorem q2_189 : (.lays "java/lang/IllegalStateException" "java/lang/Throwable" "suppressedExceptions" "Ljava/util/List;" : Cond) ∈ TW := tw_2 (List.mem_of_getElem? (i := 189) (by decide +kernel)) (by decide +kernel)
theorem q2_190 : (.lays "java/lang/IllegalStateException" "java/lang/Throwable" "detailMessage" "Ljava/lang/String;" : Cond) ∈ TW := tw_2 (List.mem_of_getElem? (i := 190) (by decide +kernel)) (by decide +kernel)
theorem q2_191 : (.lays "java/lang/IllegalStateException" "java/lang/Throwable" "backtrace" "Ljava/lang/Object;" : Cond) ∈ TW := tw_2 (List.mem_of_getElem? (i := 191) (by decide +kernel)) (by decide +kernel)
theorem q2_193 : (.methodLink "Springleaf" 62 ⟨"java/lang/IllegalStateException","<init>","(Ljava/lang/String;)V"⟩ : Cond) ∈ TW := tw_2 (List.mem_of_getElem? (i := 193) (by decide +kernel)) (by decide +kernel)
theorem q2_194 : (.instanceMethod ⟨"java/lang/IllegalStateException","<init>","(Ljava/lang/String;)V"⟩ : Cond) ∈ TW := tw_2 (List.mem_of_getElem? (i := 194) (by decide +kernel)) (by decide +kernel)
theorem q2_195 : (.code ⟨"java/lang/IllegalStateException","<init>","(Ljava/lang/String;)V"⟩ prog_15_method_2_code 2 none : Cond) ∈ TW := tw_2 (List.mem_of_getElem? (i := 195) (by decide +kernel)) (by decide +kernel)
theorem q2_196 : (.methodLink "java/lang/IllegalStateException" 7 ⟨"java/lang/RuntimeException","<init>","(Ljava/lang/String;)V"⟩ : Cond) ∈ TW := tw_2 (List.mem_of_getElem? (i := 196) (by decide +kernel)) (by decide +kernel)
theorem q2_197 : (.lays "java/lang/IllegalStateException" "java/lang/Throwable" "depth" "I" : Cond) ∈ TW := tw_2 (List.mem_of_getElem? (i := 197) (by decide +kernel)) (by decide +kernel)
theorem q2_198 : (.superclass "java/lang/IllegalStateException" "java/lang/RuntimeException" : Cond) ∈ TW := tw_2 (List.mem_of_getElem? (i := 198) (by decide +kernel)) (by decide +kernel)
theorem q2_199 : (.methodLink "SpringleafLaw" 71 ⟨"SpringleafLaw","part","(LSpringleaf;IIIIIZ[J)I"⟩ : Cond) ∈ TW := tw_2 (List.mem_of_getElem? (i := 199) (by decide +kernel)) (by decide +kernel)
theorem q2_200 : (.static ⟨"SpringleafLaw","part","(LSpringleaf;IIIIIZ[J)I"⟩ : Cond) ∈ TW := tw_2 (List.mem_of_getElem? (i := 200) (by decide +kernel)) (by decide +kernel)
theorem q2_201 : (.codeWith ⟨"SpringleafLaw","part","(LSpringleaf;IIIIIZ[J)I"⟩ method_4_code 9 (some .int) [(0, 18, 21, 13), (0, 18, 25, 15), (0, 18, 29, 17)] : Cond) ∈ TW := tw_2 (List.mem_of_getElem? (i := 201) (by decide +kernel)) (by decide +kernel)
theorem q2_202 : (.methodLink "SpringleafLaw" 19 ⟨"Springleaf","part","(IIIIIZ)I"⟩ : Cond) ∈ TW := tw_2 (List.mem_of_getElem? (i := 202) (by decide +kernel)) (by decide +kernel)
theorem q2_203 : (.instanceMethod ⟨"Springleaf","part","(IIIIIZ)I"⟩ : Cond) ∈ TW := tw_2 (List.mem_of_getElem? (i := 203) (by decide +kernel)) (by decide +kernel)
theorem q2_204 : (.selects "Springleaf" ⟨"Springleaf","part","(IIIIIZ)I"⟩ ⟨"Springleaf","part","(IIIIIZ)I"⟩ : Cond) ∈ TW := tw_2 (List.mem_of_getElem? (i := 204) (by decide +kernel)) (by decide +kernel)
theorem q2_205 : (.code ⟨"Springleaf","part","(IIIIIZ)I"⟩ prog_1_method_3_code 7 (some .int) : Cond) ∈ TW := tw_2 (List.mem_of_getElem? (i := 205) (by decide +kernel)) (by decide +kernel)
theorem q2_207 : (.methodLink "Springleaf" 69 ⟨"Springleaf","requireLength","(I)V"⟩ : Cond) ∈ TW := tw_2 (List.mem_of_getElem? (i := 207) (by decide +kernel)) (by decide +kernel)
theorem q2_208 : (.static ⟨"Springleaf","requireLength","(I)V"⟩ : Cond) ∈ TW := tw_2 (List.mem_of_getElem? (i := 208) (by decide +kernel)) (by decide +kernel)
theorem q2_209 : (.code ⟨"Springleaf","requireLength","(I)V"⟩ prog_1_method_21_code 1 none : Cond) ∈ TW := tw_2 (List.mem_of_getElem? (i := 209) (by decide +kernel)) (by decide +kernel)
theorem q2_212 : (.instantiable "Springleaf$Part" 12 : Cond) ∈ TW := tw_2 (List.mem_of_getElem? (i := 212) (by decide +kernel)) (by decide +kernel)
theorem q2_213 : (.methodLink "Springleaf" 76 ⟨"Springleaf$Part","<init>","(LSpringleaf$Fold;IIIIZ)V"⟩ : Cond) ∈ TW := tw_2 (List.mem_of_getElem? (i := 213) (by decide +kernel)) (by decide +kernel)
theorem q2_214 : (.instanceMethod ⟨"Springleaf$Part","<init>","(LSpringleaf$Fold;IIIIZ)V"⟩ : Cond) ∈ TW := tw_2 (List.mem_of_getElem? (i := 214) (by decide +kernel)) (by decide +kernel)
theorem q2_215 : (.code ⟨"Springleaf$Part","<init>","(LSpringleaf$Fold;IIIIZ)V"⟩ prog_3_method_1_code 7 none : Cond) ∈ TW := tw_2 (List.mem_of_getElem? (i := 215) (by decide +kernel)) (by decide +kernel)
theorem q2_216 : (.methodLink "Springleaf$Part" 3 ⟨"java/lang/Object","<init>","()V"⟩ : Cond) ∈ TW := tw_2 (List.mem_of_getElem? (i := 216) (by decide +kernel)) (by decide +kernel)
theorem q2_217 : (.fieldLink "Springleaf$Part" 15 "Springleaf$Part" "fold" "LSpringleaf$Fold;" : Cond) ∈ TW := tw_2 (List.mem_of_getElem? (i := 217) (by decide +kernel)) (by decide +kernel)
theorem q2_218 : (.fieldLink "Springleaf" 211 "Springleaf$Part" "fold" "LSpringleaf$Fold;" : Cond) ∈ TW := tw_2 (List.mem_of_getElem? (i := 218) (by decide +kernel)) (by decide +kernel)
theorem q2_219 : (.fieldLink "Springleaf$Part" 19 "Springleaf$Part" "place" "I" : Cond) ∈ TW := tw_2 (List.mem_of_getElem? (i := 219) (by decide +kernel)) (by decide +kernel)
theorem q2_220 : (.fieldLink "Springleaf$Part" 25 "Springleaf$Part" "line" "I" : Cond) ∈ TW := tw_2 (List.mem_of_getElem? (i := 220) (by decide +kernel)) (by decide +kernel)
theorem q2_221 : (.fieldLink "Springleaf$Part" 28 "Springleaf$Part" "lines" "I" : Cond) ∈ TW := tw_2 (List.mem_of_getElem? (i := 221) (by decide +kernel)) (by decide +kernel)
theorem q2_222 : (.fieldLink "Springleaf$Part" 31 "Springleaf$Part" "eases" "Z" : Cond) ∈ TW := tw_2 (List.mem_of_getElem? (i := 222) (by decide +kernel)) (by decide +kernel)
theorem q2_223 : (.fieldLink "Springleaf$Part" 22 "Springleaf$Part" "length" "I" : Cond) ∈ TW := tw_2 (List.mem_of_getElem? (i := 223) (by decide +kernel)) (by decide +kernel)
theorem q2_224 : (.fieldLink "Springleaf" 162 "Springleaf$Part" "length" "I" : Cond) ∈ TW := tw_2 (List.mem_of_getElem? (i := 224) (by decide +kernel)) (by decide +kernel)
theorem q2_225 : (.fieldLink "Springleaf$Part" 9 "Springleaf$Part" "step" "I" : Cond) ∈ TW := tw_2 (List.mem_of_getElem? (i := 225) (by decide +kernel)) (by decide +kernel)
theorem q2_226 : (.fieldLink "Springleaf" 145 "Springleaf$Part" "step" "I" : Cond) ∈ TW := tw_2 (List.mem_of_getElem? (i := 226) (by decide +kernel)) (by decide +kernel)
theorem q2_227 : (.fieldLink "Springleaf" 120 "Springleaf$Part" "sheet" "I" : Cond) ∈ TW := tw_2 (List.mem_of_getElem? (i := 227) (by decide +kernel)) (by decide +kernel)
theorem q2_228 : (.fieldLink "Springleaf" 123 "Springleaf$Part" "left" "I" : Cond) ∈ TW := tw_2 (List.mem_of_getElem? (i := 228) (by decide +kernel)) (by decide +kernel)
theorem q2_229 : (.fieldLink "Springleaf" 126 "Springleaf$Part" "top" "I" : Cond) ∈ TW := tw_2 (List.mem_of_getElem? (i := 229) (by decide +kernel)) (by decide +kernel)
theorem q2_230 : (.fieldLink "Springleaf" 214 "Springleaf$Part" "shelfHeight" "I" : Cond) ∈ TW := tw_2 (List.mem_of_getElem? (i := 230) (by decide +kernel)) (by decide +kernel)
theorem q2_231 : (.fieldLink "Springleaf" 228 "Springleaf$Part" "shelfFilled" "I" : Cond) ∈ TW := tw_2 (List.mem_of_getElem? (i := 231) (by decide +kernel)) (by decide +kernel)
theorem q2_232 : (.laysFinal "Springleaf$Part" "Springleaf$Part" "fold" "LSpringleaf$Fold;" : Cond) ∈ TW := tw_2 (List.mem_of_getElem? (i := 232) (by decide +kernel)) (by decide +kernel)
theorem q2_233 : (.soleField "Springleaf$Part" "fold" : Cond) ∈ TW := tw_2 (List.mem_of_getElem? (i := 233) (by decide +kernel)) (by decide +kernel)
theorem q2_234 : (.laysFinal "Springleaf$Part" "Springleaf$Part" "place" "I" : Cond) ∈ TW := tw_2 (List.mem_of_getElem? (i := 234) (by decide +kernel)) (by decide +kernel)
theorem q2_235 : (.soleField "Springleaf$Part" "place" : Cond) ∈ TW := tw_2 (List.mem_of_getElem? (i := 235) (by decide +kernel)) (by decide +kernel)
theorem q2_236 : (.laysFinal "Springleaf$Part" "Springleaf$Part" "line" "I" : Cond) ∈ TW := tw_2 (List.mem_of_getElem? (i := 236) (by decide +kernel)) (by decide +kernel)
theorem q2_237 : (.soleField "Springleaf$Part" "line" : Cond) ∈ TW := tw_2 (List.mem_of_getElem? (i := 237) (by decide +kernel)) (by decide +kernel)
theorem q2_238 : (.laysFinal "Springleaf$Part" "Springleaf$Part" "lines" "I" : Cond) ∈ TW := tw_2 (List.mem_of_getElem? (i := 238) (by decide +kernel)) (by decide +kernel)
theorem q2_239 : (.soleField "Springleaf$Part" "lines" : Cond) ∈ TW := tw_2 (List.mem_of_getElem? (i := 239) (by decide +kernel)) (by decide +kernel)
theorem q3_0 : (.laysFinal "Springleaf$Part" "Springleaf$Part" "eases" "Z" : Cond) ∈ TW := tw_3 (List.mem_of_getElem? (i := 0) (by decide +kernel)) (by decide +kernel)
theorem q3_1 : (.soleField "Springleaf$Part" "eases" : Cond) ∈ TW := tw_3 (List.mem_of_getElem? (i := 1) (by decide +kernel)) (by decide +kernel)
theorem q3_2 : (.lays "Springleaf$Part" "Springleaf$Part" "length" "I" : Cond) ∈ TW := tw_3 (List.mem_of_getElem? (i := 2) (by decide +kernel)) (by decide +kernel)
theorem q3_3 : (.soleField "Springleaf$Part" "length" : Cond) ∈ TW := tw_3 (List.mem_of_getElem? (i := 3) (by decide +kernel)) (by decide +kernel)
theorem q3_4 : (.lays "Springleaf$Part" "Springleaf$Part" "step" "I" : Cond) ∈ TW := tw_3 (List.mem_of_getElem? (i := 4) (by decide +kernel)) (by decide +kernel)
theorem q3_5 : (.soleField "Springleaf$Part" "step" : Cond) ∈ TW := tw_3 (List.mem_of_getElem? (i := 5) (by decide +kernel)) (by decide +kernel)
theorem q3_6 : (.lays "Springleaf$Part" "Springleaf$Part" "sheet" "I" : Cond) ∈ TW := tw_3 (List.mem_of_getElem? (i := 6) (by decide +kernel)) (by decide +kernel)
theorem q3_7 : (.soleField "Springleaf$Part" "sheet" : Cond) ∈ TW := tw_3 (List.mem_of_getElem? (i := 7) (by decide +kernel)) (by decide +kernel)
theorem q3_8 : (.lays "Springleaf$Part" "Springleaf$Part" "left" "I" : Cond) ∈ TW := tw_3 (List.mem_of_getElem? (i := 8) (by decide +kernel)) (by decide +kernel)
theorem q3_9 : (.soleField "Springleaf$Part" "left" : Cond) ∈ TW := tw_3 (List.mem_of_getElem? (i := 9) (by decide +kernel)) (by decide +kernel)
theorem q3_10 : (.lays "Springleaf$Part" "Springleaf$Part" "top" "I" : Cond) ∈ TW := tw_3 (List.mem_of_getElem? (i := 10) (by decide +kernel)) (by decide +kernel)
theorem q3_11 : (.soleField "Springleaf$Part" "top" : Cond) ∈ TW := tw_3 (List.mem_of_getElem? (i := 11) (by decide +kernel)) (by decide +kernel)
theorem q3_12 : (.lays "Springleaf$Part" "Springleaf$Part" "shelfHeight" "I" : Cond) ∈ TW := tw_3 (List.mem_of_getElem? (i := 12) (by decide +kernel)) (by decide +kernel)
theorem q3_13 : (.soleField "Springleaf$Part" "shelfHeight" : Cond) ∈ TW := tw_3 (List.mem_of_getElem? (i := 13) (by decide +kernel)) (by decide +kernel)
theorem q3_14 : (.lays "Springleaf$Part" "Springleaf$Part" "shelfFilled" "I" : Cond) ∈ TW := tw_3 (List.mem_of_getElem? (i := 14) (by decide +kernel)) (by decide +kernel)
theorem q3_15 : (.soleField "Springleaf$Part" "shelfFilled" : Cond) ∈ TW := tw_3 (List.mem_of_getElem? (i := 15) (by decide +kernel)) (by decide +kernel)
theorem q3_16 : (.superclass "Springleaf$Part" "java/lang/Object" : Cond) ∈ TW := tw_3 (List.mem_of_getElem? (i := 16) (by decide +kernel)) (by decide +kernel)
theorem q3_17 : (.methodLink "SpringleafLaw" 75 ⟨"SpringleafLaw","angle","(LSpringleaf;II[J)I"⟩ : Cond) ∈ TW := tw_3 (List.mem_of_getElem? (i := 17) (by decide +kernel)) (by decide +kernel)
theorem q3_18 : (.static ⟨"SpringleafLaw","angle","(LSpringleaf;II[J)I"⟩ : Cond) ∈ TW := tw_3 (List.mem_of_getElem? (i := 18) (by decide +kernel)) (by decide +kernel)
theorem q3_19 : (.codeWith ⟨"SpringleafLaw","angle","(LSpringleaf;II[J)I"⟩ method_5_code 5 (some .int) [(0, 10, 13, 13), (0, 10, 17, 15)] : Cond) ∈ TW := tw_3 (List.mem_of_getElem? (i := 19) (by decide +kernel)) (by decide +kernel)
theorem q3_20 : (.methodLink "SpringleafLaw" 23 ⟨"Springleaf","angle","(II)I"⟩ : Cond) ∈ TW := tw_3 (List.mem_of_getElem? (i := 20) (by decide +kernel)) (by decide +kernel)
theorem q3_21 : (.instanceMethod ⟨"Springleaf","angle","(II)I"⟩ : Cond) ∈ TW := tw_3 (List.mem_of_getElem? (i := 21) (by decide +kernel)) (by decide +kernel)
theorem q3_22 : (.selects "Springleaf" ⟨"Springleaf","angle","(II)I"⟩ ⟨"Springleaf","angle","(II)I"⟩ : Cond) ∈ TW := tw_3 (List.mem_of_getElem? (i := 22) (by decide +kernel)) (by decide +kernel)
theorem q3_23 : (.code ⟨"Springleaf","angle","(II)I"⟩ prog_1_method_4_code 3 (some .int) : Cond) ∈ TW := tw_3 (List.mem_of_getElem? (i := 23) (by decide +kernel)) (by decide +kernel)
theorem q3_24 : (.methodLink "Springleaf" 79 ⟨"Springleaf","requireOpen","(I)V"⟩ : Cond) ∈ TW := tw_3 (List.mem_of_getElem? (i := 24) (by decide +kernel)) (by decide +kernel)
theorem q3_25 : (.static ⟨"Springleaf","requireOpen","(I)V"⟩ : Cond) ∈ TW := tw_3 (List.mem_of_getElem? (i := 25) (by decide +kernel)) (by decide +kernel)
theorem q3_26 : (.code ⟨"Springleaf","requireOpen","(I)V"⟩ prog_1_method_19_code 1 none : Cond) ∈ TW := tw_3 (List.mem_of_getElem? (i := 26) (by decide +kernel)) (by decide +kernel)
theorem q3_28 : (.methodLink "SpringleafLaw" 79 ⟨"SpringleafLaw","angleAnew","(LSpringleaf;II[J)I"⟩ : Cond) ∈ TW := tw_3 (List.mem_of_getElem? (i := 28) (by decide +kernel)) (by decide +kernel)
theorem q3_29 : (.static ⟨"SpringleafLaw","angleAnew","(LSpringleaf;II[J)I"⟩ : Cond) ∈ TW := tw_3 (List.mem_of_getElem? (i := 29) (by decide +kernel)) (by decide +kernel)
theorem q3_30 : (.codeWith ⟨"SpringleafLaw","angleAnew","(LSpringleaf;II[J)I"⟩ method_6_code 5 (some .int) [(0, 10, 13, 13), (0, 10, 17, 15)] : Cond) ∈ TW := tw_3 (List.mem_of_getElem? (i := 30) (by decide +kernel)) (by decide +kernel)
theorem q3_31 : (.methodLink "SpringleafLaw" 27 ⟨"Springleaf","angleAnew","(II)I"⟩ : Cond) ∈ TW := tw_3 (List.mem_of_getElem? (i := 31) (by decide +kernel)) (by decide +kernel)
theorem q3_32 : (.instanceMethod ⟨"Springleaf","angleAnew","(II)I"⟩ : Cond) ∈ TW := tw_3 (List.mem_of_getElem? (i := 32) (by decide +kernel)) (by decide +kernel)
theorem q3_33 : (.selects "Springleaf" ⟨"Springleaf","angleAnew","(II)I"⟩ ⟨"Springleaf","angleAnew","(II)I"⟩ : Cond) ∈ TW := tw_3 (List.mem_of_getElem? (i := 33) (by decide +kernel)) (by decide +kernel)
theorem q3_34 : (.code ⟨"Springleaf","angleAnew","(II)I"⟩ prog_1_method_5_code 3 (some .int) : Cond) ∈ TW := tw_3 (List.mem_of_getElem? (i := 34) (by decide +kernel)) (by decide +kernel)
theorem q3_35 : (.methodLink "Springleaf" 89 ⟨"Springleaf","openByDegreesTo","(I)V"⟩ : Cond) ∈ TW := tw_3 (List.mem_of_getElem? (i := 35) (by decide +kernel)) (by decide +kernel)
theorem q3_36 : (.privateMethod ⟨"Springleaf","openByDegreesTo","(I)V"⟩ : Cond) ∈ TW := tw_3 (List.mem_of_getElem? (i := 36) (by decide +kernel)) (by decide +kernel)
theorem q3_37 : (.instanceMethod ⟨"Springleaf","openByDegreesTo","(I)V"⟩ : Cond) ∈ TW := tw_3 (List.mem_of_getElem? (i := 37) (by decide +kernel)) (by decide +kernel)
theorem q3_38 : (.code ⟨"Springleaf","openByDegreesTo","(I)V"⟩ prog_1_method_24_code 4 none : Cond) ∈ TW := tw_3 (List.mem_of_getElem? (i := 38) (by decide +kernel)) (by decide +kernel)
theorem q3_39 : (.methodLink "Springleaf" 194 ⟨"Springleaf$Fold","openOneDegree","()V"⟩ : Cond) ∈ TW := tw_3 (List.mem_of_getElem? (i := 39) (by decide +kernel)) (by decide +kernel)
theorem q3_40 : (.instanceMethod ⟨"Springleaf$Fold","openOneDegree","()V"⟩ : Cond) ∈ TW := tw_3 (List.mem_of_getElem? (i := 40) (by decide +kernel)) (by decide +kernel)
theorem q3_41 : (.selects "Springleaf$Fold" ⟨"Springleaf$Fold","openOneDegree","()V"⟩ ⟨"Springleaf$Fold","openOneDegree","()V"⟩ : Cond) ∈ TW := tw_3 (List.mem_of_getElem? (i := 41) (by decide +kernel)) (by decide +kernel)
theorem q3_42 : (.code ⟨"Springleaf$Fold","openOneDegree","()V"⟩ prog_2_method_3_code 2 none : Cond) ∈ TW := tw_3 (List.mem_of_getElem? (i := 42) (by decide +kernel)) (by decide +kernel)
theorem q3_43 : (.methodLink "SpringleafLaw" 82 ⟨"SpringleafLaw","where","(LSpringleaf;III[J)I"⟩ : Cond) ∈ TW := tw_3 (List.mem_of_getElem? (i := 43) (by decide +kernel)) (by decide +kernel)
theorem q3_44 : (.static ⟨"SpringleafLaw","where","(LSpringleaf;III[J)I"⟩ : Cond) ∈ TW := tw_3 (List.mem_of_getElem? (i := 44) (by decide +kernel)) (by decide +kernel)
theorem q3_45 : (.codeWith ⟨"SpringleafLaw","where","(LSpringleaf;III[J)I"⟩ method_7_code 6 (some .int) [(0, 12, 15, 13), (0, 12, 19, 15)] : Cond) ∈ TW := tw_3 (List.mem_of_getElem? (i := 45) (by decide +kernel)) (by decide +kernel)
theorem q3_46 : (.methodLink "SpringleafLaw" 30 ⟨"Springleaf","where","(III)I"⟩ : Cond) ∈ TW := tw_3 (List.mem_of_getElem? (i := 46) (by decide +kernel)) (by decide +kernel)
theorem q3_47 : (.instanceMethod ⟨"Springleaf","where","(III)I"⟩ : Cond) ∈ TW := tw_3 (List.mem_of_getElem? (i := 47) (by decide +kernel)) (by decide +kernel)
theorem q3_48 : (.selects "Springleaf" ⟨"Springleaf","where","(III)I"⟩ ⟨"Springleaf","where","(III)I"⟩ : Cond) ∈ TW := tw_3 (List.mem_of_getElem? (i := 48) (by decide +kernel)) (by decide +kernel)
theorem q3_49 : (.code ⟨"Springleaf","where","(III)I"⟩ prog_1_method_6_code 5 (some .int) : Cond) ∈ TW := tw_3 (List.mem_of_getElem? (i := 49) (by decide +kernel)) (by decide +kernel)
theorem q3_50 : (.methodLink "Springleaf" 92 ⟨"Springleaf","requirePart","(I)V"⟩ : Cond) ∈ TW := tw_3 (List.mem_of_getElem? (i := 50) (by decide +kernel)) (by decide +kernel)
theorem q3_51 : (.privateMethod ⟨"Springleaf","requirePart","(I)V"⟩ : Cond) ∈ TW := tw_3 (List.mem_of_getElem? (i := 51) (by decide +kernel)) (by decide +kernel)
theorem q3_52 : (.instanceMethod ⟨"Springleaf","requirePart","(I)V"⟩ : Cond) ∈ TW := tw_3 (List.mem_of_getElem? (i := 52) (by decide +kernel)) (by decide +kernel)
theorem q3_53 : (.code ⟨"Springleaf","requirePart","(I)V"⟩ prog_1_method_18_code 2 none : Cond) ∈ TW := tw_3 (List.mem_of_getElem? (i := 53) (by decide +kernel)) (by decide +kernel)
theorem q3_55 : (.methodLink "Springleaf" 95 ⟨"Springleaf","requireWhat","(I)V"⟩ : Cond) ∈ TW := tw_3 (List.mem_of_getElem? (i := 55) (by decide +kernel)) (by decide +kernel)
theorem q3_56 : (.static ⟨"Springleaf","requireWhat","(I)V"⟩ : Cond) ∈ TW := tw_3 (List.mem_of_getElem? (i := 56) (by decide +kernel)) (by decide +kernel)
theorem q3_57 : (.code ⟨"Springleaf","requireWhat","(I)V"⟩ prog_1_method_20_code 1 none : Cond) ∈ TW := tw_3 (List.mem_of_getElem? (i := 57) (by decide +kernel)) (by decide +kernel)
theorem q3_59 : (.methodLink "Springleaf" 98 ⟨"Springleaf$Part","rise","()I"⟩ : Cond) ∈ TW := tw_3 (List.mem_of_getElem? (i := 59) (by decide +kernel)) (by decide +kernel)
theorem q3_60 : (.methodLink "Springleaf" 101 ⟨"Springleaf$Part","spanStart","()I"⟩ : Cond) ∈ TW := tw_3 (List.mem_of_getElem? (i := 60) (by decide +kernel)) (by decide +kernel)
theorem q3_61 : (.methodLink "Springleaf" 104 ⟨"Springleaf$Part","spanEnd","()I"⟩ : Cond) ∈ TW := tw_3 (List.mem_of_getElem? (i := 61) (by decide +kernel)) (by decide +kernel)
theorem q3_62 : (.methodLink "SpringleafLaw" 85 ⟨"SpringleafLaw","meet","(LSpringleaf;III[J)I"⟩ : Cond) ∈ TW := tw_3 (List.mem_of_getElem? (i := 62) (by decide +kernel)) (by decide +kernel)
theorem q3_63 : (.static ⟨"SpringleafLaw","meet","(LSpringleaf;III[J)I"⟩ : Cond) ∈ TW := tw_3 (List.mem_of_getElem? (i := 63) (by decide +kernel)) (by decide +kernel)
theorem q3_64 : (.codeWith ⟨"SpringleafLaw","meet","(LSpringleaf;III[J)I"⟩ method_8_code 6 (some .int) [(0, 19, 22, 13), (0, 19, 26, 15)] : Cond) ∈ TW := tw_3 (List.mem_of_getElem? (i := 64) (by decide +kernel)) (by decide +kernel)
theorem q3_65 : (.methodLink "SpringleafLaw" 33 ⟨"Springleaf","meet","(III)Z"⟩ : Cond) ∈ TW := tw_3 (List.mem_of_getElem? (i := 65) (by decide +kernel)) (by decide +kernel)
theorem q3_66 : (.instanceMethod ⟨"Springleaf","meet","(III)Z"⟩ : Cond) ∈ TW := tw_3 (List.mem_of_getElem? (i := 66) (by decide +kernel)) (by decide +kernel)
theorem q3_67 : (.selects "Springleaf" ⟨"Springleaf","meet","(III)Z"⟩ ⟨"Springleaf","meet","(III)Z"⟩ : Cond) ∈ TW := tw_3 (List.mem_of_getElem? (i := 67) (by decide +kernel)) (by decide +kernel)
theorem q3_68 : (.code ⟨"Springleaf","meet","(III)Z"⟩ prog_1_method_7_code 4 (some .boolean) : Cond) ∈ TW := tw_3 (List.mem_of_getElem? (i := 68) (by decide +kernel)) (by decide +kernel)
theorem q3_69 : (.methodLink "SpringleafLaw" 96 ⟨"SpringleafLaw","laid","(LSpringleaf;II[J)I"⟩ : Cond) ∈ TW := tw_3 (List.mem_of_getElem? (i := 69) (by decide +kernel)) (by decide +kernel)
theorem q3_70 : (.static ⟨"SpringleafLaw","laid","(LSpringleaf;II[J)I"⟩ : Cond) ∈ TW := tw_3 (List.mem_of_getElem? (i := 70) (by decide +kernel)) (by decide +kernel)
theorem q3_71 : (.codeWith ⟨"SpringleafLaw","laid","(LSpringleaf;II[J)I"⟩ method_9_code 5 (some .int) [(0, 10, 13, 13), (0, 10, 17, 15)] : Cond) ∈ TW := tw_3 (List.mem_of_getElem? (i := 71) (by decide +kernel)) (by decide +kernel)
theorem q3_72 : (.methodLink "SpringleafLaw" 37 ⟨"Springleaf","laid","(II)I"⟩ : Cond) ∈ TW := tw_3 (List.mem_of_getElem? (i := 72) (by decide +kernel)) (by decide +kernel)
theorem q3_73 : (.instanceMethod ⟨"Springleaf","laid","(II)I"⟩ : Cond) ∈ TW := tw_3 (List.mem_of_getElem? (i := 73) (by decide +kernel)) (by decide +kernel)
theorem q3_74 : (.selects "Springleaf" ⟨"Springleaf","laid","(II)I"⟩ ⟨"Springleaf","laid","(II)I"⟩ : Cond) ∈ TW := tw_3 (List.mem_of_getElem? (i := 74) (by decide +kernel)) (by decide +kernel)
theorem q3_75 : (.code ⟨"Springleaf","laid","(II)I"⟩ prog_1_method_10_code 4 (some .int) : Cond) ∈ TW := tw_3 (List.mem_of_getElem? (i := 75) (by decide +kernel)) (by decide +kernel)
theorem q3_76 : (.methodLink "SpringleafLaw" 99 ⟨"SpringleafLaw","glue","(LSpringleaf;I[J)I"⟩ : Cond) ∈ TW := tw_3 (List.mem_of_getElem? (i := 76) (by decide +kernel)) (by decide +kernel)
theorem q3_77 : (.static ⟨"SpringleafLaw","glue","(LSpringleaf;I[J)I"⟩ : Cond) ∈ TW := tw_3 (List.mem_of_getElem? (i := 77) (by decide +kernel)) (by decide +kernel)
theorem q3_78 : (.codeWith ⟨"SpringleafLaw","glue","(LSpringleaf;I[J)I"⟩ method_10_code 4 (some .int) [(0, 9, 12, 13), (0, 9, 15, 17)] : Cond) ∈ TW := tw_3 (List.mem_of_getElem? (i := 78) (by decide +kernel)) (by decide +kernel)
theorem q3_79 : (.methodLink "SpringleafLaw" 40 ⟨"Springleaf","glue","(I)I"⟩ : Cond) ∈ TW := tw_3 (List.mem_of_getElem? (i := 79) (by decide +kernel)) (by decide +kernel)
theorem q3_80 : (.instanceMethod ⟨"Springleaf","glue","(I)I"⟩ : Cond) ∈ TW := tw_3 (List.mem_of_getElem? (i := 80) (by decide +kernel)) (by decide +kernel)
theorem q3_81 : (.selects "Springleaf" ⟨"Springleaf","glue","(I)I"⟩ ⟨"Springleaf","glue","(I)I"⟩ : Cond) ∈ TW := tw_3 (List.mem_of_getElem? (i := 81) (by decide +kernel)) (by decide +kernel)
theorem q3_82 : (.code ⟨"Springleaf","glue","(I)I"⟩ prog_1_method_11_code 3 (some .int) : Cond) ∈ TW := tw_3 (List.mem_of_getElem? (i := 82) (by decide +kernel)) (by decide +kernel)
theorem q3_83 : (.methodLink "Springleaf" 129 ⟨"Springleaf$Part","isGlued","()Z"⟩ : Cond) ∈ TW := tw_3 (List.mem_of_getElem? (i := 83) (by decide +kernel)) (by decide +kernel)
theorem q3_84 : (.instanceMethod ⟨"Springleaf$Part","isGlued","()Z"⟩ : Cond) ∈ TW := tw_3 (List.mem_of_getElem? (i := 84) (by decide +kernel)) (by decide +kernel)
theorem q3_85 : (.selects "Springleaf$Part" ⟨"Springleaf$Part","isGlued","()Z"⟩ ⟨"Springleaf$Part","isGlued","()Z"⟩ : Cond) ∈ TW := tw_3 (List.mem_of_getElem? (i := 85) (by decide +kernel)) (by decide +kernel)
theorem q3_86 : (.code ⟨"Springleaf$Part","isGlued","()Z"⟩ prog_3_method_2_code 1 (some .boolean) : Cond) ∈ TW := tw_3 (List.mem_of_getElem? (i := 86) (by decide +kernel)) (by decide +kernel)
theorem q3_88 : (.methodLink "Springleaf" 134 ⟨"Springleaf","isStartCovered","(LSpringleaf$Part;)Z"⟩ : Cond) ∈ TW := tw_3 (List.mem_of_getElem? (i := 88) (by decide +kernel)) (by decide +kernel)
theorem q3_89 : (.privateMethod ⟨"Springleaf","isStartCovered","(LSpringleaf$Part;)Z"⟩ : Cond) ∈ TW := tw_3 (List.mem_of_getElem? (i := 89) (by decide +kernel)) (by decide +kernel)
theorem q3_90 : (.instanceMethod ⟨"Springleaf","isStartCovered","(LSpringleaf$Part;)Z"⟩ : Cond) ∈ TW := tw_3 (List.mem_of_getElem? (i := 90) (by decide +kernel)) (by decide +kernel)
theorem q3_91 : (.code ⟨"Springleaf","isStartCovered","(LSpringleaf$Part;)Z"⟩ prog_1_method_27_code 3 (some .boolean) : Cond) ∈ TW := tw_3 (List.mem_of_getElem? (i := 91) (by decide +kernel)) (by decide +kernel)
theorem q3_92 : (.methodLink "Springleaf" 208 ⟨"Springleaf$Part","coversStartOf","(LSpringleaf$Part;)Z"⟩ : Cond) ∈ TW := tw_3 (List.mem_of_getElem? (i := 92) (by decide +kernel)) (by decide +kernel)
theorem q3_93 : (.instanceMethod ⟨"Springleaf$Part","coversStartOf","(LSpringleaf$Part;)Z"⟩ : Cond) ∈ TW := tw_3 (List.mem_of_getElem? (i := 93) (by decide +kernel)) (by decide +kernel)
theorem q3_94 : (.selects "Springleaf$Part" ⟨"Springleaf$Part","coversStartOf","(LSpringleaf$Part;)Z"⟩ ⟨"Springleaf$Part","coversStartOf","(LSpringleaf$Part;)Z"⟩ : Cond) ∈ TW := tw_3 (List.mem_of_getElem? (i := 94) (by decide +kernel)) (by decide +kernel)
theorem q3_95 : (.code ⟨"Springleaf$Part","coversStartOf","(LSpringleaf$Part;)Z"⟩ prog_3_method_9_code 2 (some .boolean) : Cond) ∈ TW := tw_3 (List.mem_of_getElem? (i := 95) (by decide +kernel)) (by decide +kernel)
theorem q3_96 : (.methodLink "Springleaf" 137 ⟨"Springleaf","hasHold","(LSpringleaf$Part;)Z"⟩ : Cond) ∈ TW := tw_3 (List.mem_of_getElem? (i := 96) (by decide +kernel)) (by decide +kernel)
theorem q3_97 : (.privateMethod ⟨"Springleaf","hasHold","(LSpringleaf$Part;)Z"⟩ : Cond) ∈ TW := tw_3 (List.mem_of_getElem? (i := 97) (by decide +kernel)) (by decide +kernel)
theorem q3_98 : (.instanceMethod ⟨"Springleaf","hasHold","(LSpringleaf$Part;)Z"⟩ : Cond) ∈ TW := tw_3 (List.mem_of_getElem? (i := 98) (by decide +kernel)) (by decide +kernel)
theorem q3_99 : (.code ⟨"Springleaf","hasHold","(LSpringleaf$Part;)Z"⟩ prog_1_method_28_code 3 (some .boolean) : Cond) ∈ TW := tw_3 (List.mem_of_getElem? (i := 99) (by decide +kernel)) (by decide +kernel)
theorem q3_101 : (.methodLink "SpringleafLaw" 103 ⟨"SpringleafLaw","unglue","(LSpringleaf;[J)I"⟩ : Cond) ∈ TW := tw_3 (List.mem_of_getElem? (i := 101) (by decide +kernel)) (by decide +kernel)
theorem q3_102 : (.static ⟨"SpringleafLaw","unglue","(LSpringleaf;[J)I"⟩ : Cond) ∈ TW := tw_3 (List.mem_of_getElem? (i := 102) (by decide +kernel)) (by decide +kernel)
theorem q3_103 : (.codeWith ⟨"SpringleafLaw","unglue","(LSpringleaf;[J)I"⟩ method_11_code 3 (some .int) [(0, 8, 11, 17)] : Cond) ∈ TW := tw_3 (List.mem_of_getElem? (i := 103) (by decide +kernel)) (by decide +kernel)
theorem q3_104 : (.methodLink "SpringleafLaw" 44 ⟨"Springleaf","unglue","()I"⟩ : Cond) ∈ TW := tw_3 (List.mem_of_getElem? (i := 104) (by decide +kernel)) (by decide +kernel)
theorem q3_105 : (.instanceMethod ⟨"Springleaf","unglue","()I"⟩ : Cond) ∈ TW := tw_3 (List.mem_of_getElem? (i := 105) (by decide +kernel)) (by decide +kernel)
theorem q3_106 : (.selects "Springleaf" ⟨"Springleaf","unglue","()I"⟩ ⟨"Springleaf","unglue","()I"⟩ : Cond) ∈ TW := tw_3 (List.mem_of_getElem? (i := 106) (by decide +kernel)) (by decide +kernel)
theorem q3_107 : (.code ⟨"Springleaf","unglue","()I"⟩ prog_1_method_12_code 2 (some .int) : Cond) ∈ TW := tw_3 (List.mem_of_getElem? (i := 107) (by decide +kernel)) (by decide +kernel)
theorem q3_109 : (.methodLink "Springleaf" 150 ⟨"Springleaf","partGluedAt","(I)I"⟩ : Cond) ∈ TW := tw_3 (List.mem_of_getElem? (i := 109) (by decide +kernel)) (by decide +kernel)
theorem q3_110 : (.privateMethod ⟨"Springleaf","partGluedAt","(I)I"⟩ : Cond) ∈ TW := tw_3 (List.mem_of_getElem? (i := 110) (by decide +kernel)) (by decide +kernel)
theorem q3_111 : (.instanceMethod ⟨"Springleaf","partGluedAt","(I)I"⟩ : Cond) ∈ TW := tw_3 (List.mem_of_getElem? (i := 111) (by decide +kernel)) (by decide +kernel)
theorem q3_112 : (.code ⟨"Springleaf","partGluedAt","(I)I"⟩ prog_1_method_29_code 3 (some .int) : Cond) ∈ TW := tw_3 (List.mem_of_getElem? (i := 112) (by decide +kernel)) (by decide +kernel)
theorem q3_113 : (.methodLink "Springleaf" 154 ⟨"Springleaf","unglueFrom","(I)I"⟩ : Cond) ∈ TW := tw_3 (List.mem_of_getElem? (i := 113) (by decide +kernel)) (by decide +kernel)
theorem q3_114 : (.privateMethod ⟨"Springleaf","unglueFrom","(I)I"⟩ : Cond) ∈ TW := tw_3 (List.mem_of_getElem? (i := 114) (by decide +kernel)) (by decide +kernel)
theorem q3_115 : (.instanceMethod ⟨"Springleaf","unglueFrom","(I)I"⟩ : Cond) ∈ TW := tw_3 (List.mem_of_getElem? (i := 115) (by decide +kernel)) (by decide +kernel)
theorem q3_116 : (.code ⟨"Springleaf","unglueFrom","(I)I"⟩ prog_1_method_30_code 3 (some .int) : Cond) ∈ TW := tw_3 (List.mem_of_getElem? (i := 116) (by decide +kernel)) (by decide +kernel)
theorem q3_117 : (.methodLink "SpringleafLaw" 107 ⟨"SpringleafLaw","glued","(LSpringleaf;I[J)I"⟩ : Cond) ∈ TW := tw_3 (List.mem_of_getElem? (i := 117) (by decide +kernel)) (by decide +kernel)
theorem q3_118 : (.static ⟨"SpringleafLaw","glued","(LSpringleaf;I[J)I"⟩ : Cond) ∈ TW := tw_3 (List.mem_of_getElem? (i := 118) (by decide +kernel)) (by decide +kernel)
theorem q3_119 : (.codeWith ⟨"SpringleafLaw","glued","(LSpringleaf;I[J)I"⟩ method_12_code 4 (some .int) [(0, 9, 12, 13)] : Cond) ∈ TW := tw_3 (List.mem_of_getElem? (i := 119) (by decide +kernel)) (by decide +kernel)
theorem q3_120 : (.methodLink "SpringleafLaw" 48 ⟨"Springleaf","glued","(I)I"⟩ : Cond) ∈ TW := tw_3 (List.mem_of_getElem? (i := 120) (by decide +kernel)) (by decide +kernel)
theorem q3_121 : (.instanceMethod ⟨"Springleaf","glued","(I)I"⟩ : Cond) ∈ TW := tw_3 (List.mem_of_getElem? (i := 121) (by decide +kernel)) (by decide +kernel)
theorem q3_122 : (.selects "Springleaf" ⟨"Springleaf","glued","(I)I"⟩ ⟨"Springleaf","glued","(I)I"⟩ : Cond) ∈ TW := tw_3 (List.mem_of_getElem? (i := 122) (by decide +kernel)) (by decide +kernel)
theorem q3_123 : (.code ⟨"Springleaf","glued","(I)I"⟩ prog_1_method_13_code 2 (some .int) : Cond) ∈ TW := tw_3 (List.mem_of_getElem? (i := 123) (by decide +kernel)) (by decide +kernel)
theorem q3_125 : (.methodLink "SpringleafLaw" 110 ⟨"SpringleafLaw","resize","(LSpringleaf;II[J)I"⟩ : Cond) ∈ TW := tw_3 (List.mem_of_getElem? (i := 125) (by decide +kernel)) (by decide +kernel)
theorem q3_126 : (.static ⟨"SpringleafLaw","resize","(LSpringleaf;II[J)I"⟩ : Cond) ∈ TW := tw_3 (List.mem_of_getElem? (i := 126) (by decide +kernel)) (by decide +kernel)
theorem q3_127 : (.codeWith ⟨"SpringleafLaw","resize","(LSpringleaf;II[J)I"⟩ method_13_code 5 (some .int) [(0, 10, 13, 13), (0, 10, 17, 15)] : Cond) ∈ TW := tw_3 (List.mem_of_getElem? (i := 127) (by decide +kernel)) (by decide +kernel)
theorem q3_128 : (.methodLink "SpringleafLaw" 51 ⟨"Springleaf","resize","(II)I"⟩ : Cond) ∈ TW := tw_3 (List.mem_of_getElem? (i := 128) (by decide +kernel)) (by decide +kernel)
theorem q3_129 : (.instanceMethod ⟨"Springleaf","resize","(II)I"⟩ : Cond) ∈ TW := tw_3 (List.mem_of_getElem? (i := 129) (by decide +kernel)) (by decide +kernel)
theorem q3_130 : (.selects "Springleaf" ⟨"Springleaf","resize","(II)I"⟩ ⟨"Springleaf","resize","(II)I"⟩ : Cond) ∈ TW := tw_3 (List.mem_of_getElem? (i := 130) (by decide +kernel)) (by decide +kernel)
theorem q3_131 : (.code ⟨"Springleaf","resize","(II)I"⟩ prog_1_method_14_code 4 (some .int) : Cond) ∈ TW := tw_3 (List.mem_of_getElem? (i := 131) (by decide +kernel)) (by decide +kernel)
theorem q3_132 : (.methodLink "SpringleafLaw" 118 ⟨"SpringleafLaw","tells","(LSpringleaf;II[J)I"⟩ : Cond) ∈ TW := tw_3 (List.mem_of_getElem? (i := 132) (by decide +kernel)) (by decide +kernel)
theorem q3_133 : (.static ⟨"SpringleafLaw","tells","(LSpringleaf;II[J)I"⟩ : Cond) ∈ TW := tw_3 (List.mem_of_getElem? (i := 133) (by decide +kernel)) (by decide +kernel)
theorem q3_134 : (.codeWith ⟨"SpringleafLaw","tells","(LSpringleaf;II[J)I"⟩ method_14_code 5 (some .int) [(0, 10, 13, 13)] : Cond) ∈ TW := tw_3 (List.mem_of_getElem? (i := 134) (by decide +kernel)) (by decide +kernel)
theorem q3_135 : (.methodLink "SpringleafLaw" 54 ⟨"Springleaf","tells","(II)C"⟩ : Cond) ∈ TW := tw_3 (List.mem_of_getElem? (i := 135) (by decide +kernel)) (by decide +kernel)
theorem q3_136 : (.instanceMethod ⟨"Springleaf","tells","(II)C"⟩ : Cond) ∈ TW := tw_3 (List.mem_of_getElem? (i := 136) (by decide +kernel)) (by decide +kernel)
theorem q3_137 : (.selects "Springleaf" ⟨"Springleaf","tells","(II)C"⟩ ⟨"Springleaf","tells","(II)C"⟩ : Cond) ∈ TW := tw_3 (List.mem_of_getElem? (i := 137) (by decide +kernel)) (by decide +kernel)
theorem q3_138 : (.code ⟨"Springleaf","tells","(II)C"⟩ prog_1_method_16_code 3 (some .char) : Cond) ∈ TW := tw_3 (List.mem_of_getElem? (i := 138) (by decide +kernel)) (by decide +kernel)
theorem q3_140 : (.methodLink "Springleaf" 173 ⟨"Springleaf","tellAll","(LSpringleaf$Fold;)V"⟩ : Cond) ∈ TW := tw_3 (List.mem_of_getElem? (i := 140) (by decide +kernel)) (by decide +kernel)
theorem q3_141 : (.privateMethod ⟨"Springleaf","tellAll","(LSpringleaf$Fold;)V"⟩ : Cond) ∈ TW := tw_3 (List.mem_of_getElem? (i := 141) (by decide +kernel)) (by decide +kernel)
theorem q3_142 : (.instanceMethod ⟨"Springleaf","tellAll","(LSpringleaf$Fold;)V"⟩ : Cond) ∈ TW := tw_3 (List.mem_of_getElem? (i := 142) (by decide +kernel)) (by decide +kernel)
theorem q3_143 : (.code ⟨"Springleaf","tellAll","(LSpringleaf$Fold;)V"⟩ prog_1_method_25_code 3 none : Cond) ∈ TW := tw_3 (List.mem_of_getElem? (i := 143) (by decide +kernel)) (by decide +kernel)
theorem q3_144 : (.methodLink "Springleaf" 197 ⟨"java/lang/StringBuilder","setLength","(I)V"⟩ : Cond) ∈ TW := tw_3 (List.mem_of_getElem? (i := 144) (by decide +kernel)) (by decide +kernel)
theorem q3_145 : (.instanceMethod ⟨"java/lang/StringBuilder","setLength","(I)V"⟩ : Cond) ∈ TW := tw_3 (List.mem_of_getElem? (i := 145) (by decide +kernel)) (by decide +kernel)
theorem q3_146 : (.selects "java/lang/StringBuilder" ⟨"java/lang/StringBuilder","setLength","(I)V"⟩ ⟨"java/lang/StringBuilder","setLength","(I)V"⟩ : Cond) ∈ TW := tw_3 (List.mem_of_getElem? (i := 146) (by decide +kernel)) (by decide +kernel)
theorem q3_147 : (.code ⟨"java/lang/StringBuilder","setLength","(I)V"⟩ prog_23_method_89_code 2 none : Cond) ∈ TW := tw_3 (List.mem_of_getElem? (i := 147) (by decide +kernel)) (by decide +kernel)
theorem q3_148 : (.methodLink "java/lang/StringBuilder" 333 ⟨"java/lang/AbstractStringBuilder","setLength","(I)V"⟩ : Cond) ∈ TW := tw_3 (List.mem_of_getElem? (i := 148) (by decide +kernel)) (by decide +kernel)
theorem q3_149 : (.instanceMethod ⟨"java/lang/AbstractStringBuilder","setLength","(I)V"⟩ : Cond) ∈ TW := tw_3 (List.mem_of_getElem? (i := 149) (by decide +kernel)) (by decide +kernel)
theorem q3_150 : (.code ⟨"java/lang/AbstractStringBuilder","setLength","(I)V"⟩ prog_7_method_13_code 2 none : Cond) ∈ TW := tw_3 (List.mem_of_getElem? (i := 150) (by decide +kernel)) (by decide +kernel)
theorem q3_151 : (.classLink "java/lang/AbstractStringBuilder" 129 "java/lang/StringIndexOutOfBoundsException" : Cond) ∈ TW := tw_3 (List.mem_of_getElem? (i := 151) (by decide +kernel)) (by decide +kernel)
theorem q3_152 : (.instantiable "java/lang/StringIndexOutOfBoundsException" 6 : Cond) ∈ TW := tw_3 (List.mem_of_getElem? (i := 152) (by decide +kernel)) (by decide +kernel)
theorem q3_153 : (.methodLink "java/lang/AbstractStringBuilder" 131 ⟨"java/lang/StringIndexOutOfBoundsException","<init>","(I)V"⟩ : Cond) ∈ TW := tw_3 (List.mem_of_getElem? (i := 153) (by decide +kernel)) (by decide +kernel)
theorem q3_154 : (.instanceMethod ⟨"java/lang/StringIndexOutOfBoundsException","<init>","(I)V"⟩ : Cond) ∈ TW := tw_3 (List.mem_of_getElem? (i := 154) (by decide +kernel)) (by decide +kernel)
theorem q3_155 : (.code ⟨"java/lang/StringIndexOutOfBoundsException","<init>","(I)V"⟩ prog_24_method_3_code 2 none : Cond) ∈ TW := tw_3 (List.mem_of_getElem? (i := 155) (by decide +kernel)) (by decide +kernel)
theorem q3_156 : (.classLink "java/lang/StringIndexOutOfBoundsException" 10 "java/lang/StringBuilder" : Cond) ∈ TW := tw_3 (List.mem_of_getElem? (i := 156) (by decide +kernel)) (by decide +kernel)
theorem q3_157 : (.methodLink "java/lang/StringIndexOutOfBoundsException" 12 ⟨"java/lang/StringBuilder","<init>","()V"⟩ : Cond) ∈ TW := tw_3 (List.mem_of_getElem? (i := 157) (by decide +kernel)) (by decide +kernel)
theorem q3_159 : (.methodLink "java/lang/StringIndexOutOfBoundsException" 15 ⟨"java/lang/StringBuilder","append","(Ljava/lang/String;)Ljava/lang/StringBuilder;"⟩ : Cond) ∈ TW := tw_3 (List.mem_of_getElem? (i := 159) (by decide +kernel)) (by decide +kernel)
theorem q3_160 : (.instanceMethod ⟨"java/lang/StringBuilder","append","(Ljava/lang/String;)Ljava/lang/StringBuilder;"⟩ : Cond) ∈ TW := tw_3 (List.mem_of_getElem? (i := 160) (by decide +kernel)) (by decide +kernel)
theorem q3_161 : (.selects "java/lang/StringBuilder" ⟨"java/lang/StringBuilder","append","(Ljava/lang/String;)Ljava/lang/StringBuilder;"⟩ ⟨"java/lang/StringBuilder","append","(Ljava/lang/String;)Ljava/lang/StringBuilder;"⟩ : Cond) ∈ TW := tw_3 (List.mem_of_getElem? (i := 161) (by decide +kernel)) (by decide +kernel)
theorem q3_162 : (.code ⟨"java/lang/StringBuilder","append","(Ljava/lang/String;)Ljava/lang/StringBuilder;"⟩ prog_23_method_7_code 2 (some (.object "java/lang/StringBuilder")) : Cond) ∈ TW := tw_3 (List.mem_of_getElem? (i := 162) (by decide +kernel)) (by decide +kernel)
theorem q3_163 : (.methodLink "java/lang/StringBuilder" 29 ⟨"java/lang/AbstractStringBuilder","append","(Ljava/lang/String;)Ljava/lang/AbstractStringBuilder;"⟩ : Cond) ∈ TW := tw_3 (List.mem_of_getElem? (i := 163) (by decide +kernel)) (by decide +kernel)
theorem q3_164 : (.instanceMethod ⟨"java/lang/AbstractStringBuilder","append","(Ljava/lang/String;)Ljava/lang/AbstractStringBuilder;"⟩ : Cond) ∈ TW := tw_3 (List.mem_of_getElem? (i := 164) (by decide +kernel)) (by decide +kernel)
theorem q3_165 : (.code ⟨"java/lang/AbstractStringBuilder","append","(Ljava/lang/String;)Ljava/lang/AbstractStringBuilder;"⟩ prog_7_method_22_code 3 (some (.object "java/lang/AbstractStringBuilder")) : Cond) ∈ TW := tw_3 (List.mem_of_getElem? (i := 165) (by decide +kernel)) (by decide +kernel)
theorem q3_166 : (.methodLink "java/lang/AbstractStringBuilder" 204 ⟨"java/lang/AbstractStringBuilder","appendNull","()Ljava/lang/AbstractStringBuilder;"⟩ : Cond) ∈ TW := tw_3 (List.mem_of_getElem? (i := 166) (by decide +kernel)) (by decide +kernel)
theorem q3_167 : (.privateMethod ⟨"java/lang/AbstractStringBuilder","appendNull","()Ljava/lang/AbstractStringBuilder;"⟩ : Cond) ∈ TW := tw_3 (List.mem_of_getElem? (i := 167) (by decide +kernel)) (by decide +kernel)
theorem q3_168 : (.instanceMethod ⟨"java/lang/AbstractStringBuilder","appendNull","()Ljava/lang/AbstractStringBuilder;"⟩ : Cond) ∈ TW := tw_3 (List.mem_of_getElem? (i := 168) (by decide +kernel)) (by decide +kernel)
theorem q3_169 : (.code ⟨"java/lang/AbstractStringBuilder","appendNull","()Ljava/lang/AbstractStringBuilder;"⟩ prog_7_method_26_code 3 (some (.object "java/lang/AbstractStringBuilder")) : Cond) ∈ TW := tw_3 (List.mem_of_getElem? (i := 169) (by decide +kernel)) (by decide +kernel)
theorem q3_170 : (.methodLink "java/lang/AbstractStringBuilder" 100 ⟨"java/lang/AbstractStringBuilder","ensureCapacityInternal","(I)V"⟩ : Cond) ∈ TW := tw_3 (List.mem_of_getElem? (i := 170) (by decide +kernel)) (by decide +kernel)
theorem q3_171 : (.privateMethod ⟨"java/lang/AbstractStringBuilder","ensureCapacityInternal","(I)V"⟩ : Cond) ∈ TW := tw_3 (List.mem_of_getElem? (i := 171) (by decide +kernel)) (by decide +kernel)
theorem q3_172 : (.instanceMethod ⟨"java/lang/AbstractStringBuilder","ensureCapacityInternal","(I)V"⟩ : Cond) ∈ TW := tw_3 (List.mem_of_getElem? (i := 172) (by decide +kernel)) (by decide +kernel)
theorem q3_173 : (.code ⟨"java/lang/AbstractStringBuilder","ensureCapacityInternal","(I)V"⟩ prog_7_method_9_code 3 none : Cond) ∈ TW := tw_3 (List.mem_of_getElem? (i := 173) (by decide +kernel)) (by decide +kernel)
theorem q3_174 : (.methodLink "java/lang/AbstractStringBuilder" 104 ⟨"java/lang/AbstractStringBuilder","newCapacity","(I)I"⟩ : Cond) ∈ TW := tw_3 (List.mem_of_getElem? (i := 174) (by decide +kernel)) (by decide +kernel)
theorem q3_175 : (.privateMethod ⟨"java/lang/AbstractStringBuilder","newCapacity","(I)I"⟩ : Cond) ∈ TW := tw_3 (List.mem_of_getElem? (i := 175) (by decide +kernel)) (by decide +kernel)
theorem q3_176 : (.instanceMethod ⟨"java/lang/AbstractStringBuilder","newCapacity","(I)I"⟩ : Cond) ∈ TW := tw_3 (List.mem_of_getElem? (i := 176) (by decide +kernel)) (by decide +kernel)
theorem q3_177 : (.code ⟨"java/lang/AbstractStringBuilder","newCapacity","(I)I"⟩ prog_7_method_10_code 6 (some .int) : Cond) ∈ TW := tw_3 (List.mem_of_getElem? (i := 177) (by decide +kernel)) (by decide +kernel)
theorem q3_178 : (.methodLink "java/lang/AbstractStringBuilder" 114 ⟨"jdk/internal/util/ArraysSupport","newLength","(III)I"⟩ : Cond) ∈ TW := tw_3 (List.mem_of_getElem? (i := 178) (by decide +kernel)) (by decide +kernel)
theorem q3_179 : (.constant "java/lang/AbstractStringBuilder" 39 (2147483647) : Cond) ∈ TW := tw_3 (List.mem_of_getElem? (i := 179) (by decide +kernel)) (by decide +kernel)
theorem q3_180 : (.methodLink "java/lang/AbstractStringBuilder" 108 ⟨"java/util/Arrays","copyOf","([BI)[B"⟩ : Cond) ∈ TW := tw_3 (List.mem_of_getElem? (i := 180) (by decide +kernel)) (by decide +kernel)
theorem q3_181 : (.static ⟨"java/util/Arrays","copyOf","([BI)[B"⟩ : Cond) ∈ TW := tw_3 (List.mem_of_getElem? (i := 181) (by decide +kernel)) (by decide +kernel)
theorem q3_182 : (.code ⟨"java/util/Arrays","copyOf","([BI)[B"⟩ prog_34_method_121_code 3 (some (.array .byte)) : Cond) ∈ TW := tw_3 (List.mem_of_getElem? (i := 182) (by decide +kernel)) (by decide +kernel)
theorem q3_183 : (.methodLink "java/util/Arrays" 310 ⟨"[B","clone","()Ljava/lang/Object;"⟩ : Cond) ∈ TW := tw_3 (List.mem_of_getElem? (i := 183) (by decide +kernel)) (by decide +kernel)
theorem q3_184 : (.sameMethod "[B" "java/lang/Object" "clone" "()Ljava/lang/Object;" : Cond) ∈ TW := tw_3 (List.mem_of_getElem? (i := 184) (by decide +kernel)) (by decide +kernel)
theorem q3_185 : (.native ⟨"java/lang/Object","clone","()Ljava/lang/Object;"⟩ : Cond) ∈ TW := tw_3 (List.mem_of_getElem? (i := 185) (by decide +kernel)) (by decide +kernel)
theorem q3_186 : (.instanceMethod ⟨"java/lang/Object","clone","()Ljava/lang/Object;"⟩ : Cond) ∈ TW := tw_3 (List.mem_of_getElem? (i := 186) (by decide +kernel)) (by decide +kernel)
theorem q3_187 : (.selects "[B" ⟨"[B","clone","()Ljava/lang/Object;"⟩ ⟨"java/lang/Object","clone","()Ljava/lang/Object;"⟩ : Cond) ∈ TW := tw_3 (List.mem_of_getElem? (i := 187) (by decide +kernel)) (by decide +kernel)
theorem q3_188 : (.castable "[B" "java/lang/Cloneable" : Cond) ∈ TW := tw_3 (List.mem_of_getElem? (i := 188) (by decide +kernel)) (by decide +kernel)
theorem q3_189 : (.classLink "java/util/Arrays" 311 "[B" : Cond) ∈ TW := tw_3 (List.mem_of_getElem? (i := 189) (by decide +kernel)) (by decide +kernel)
theorem q3_190 : (.methodLink "java/lang/AbstractStringBuilder" 83 ⟨"java/lang/AbstractStringBuilder","isLatin1","()Z"⟩ : Cond) ∈ TW := tw_3 (List.mem_of_getElem? (i := 190) (by decide +kernel)) (by decide +kernel)
theorem q3_191 : (.instanceMethod ⟨"java/lang/AbstractStringBuilder","isLatin1","()Z"⟩ : Cond) ∈ TW := tw_3 (List.mem_of_getElem? (i := 191) (by decide +kernel)) (by decide +kernel)
theorem q3_192 : (.sameMethod "java/lang/AbstractStringBuilder" "java/lang/AbstractStringBuilder" "isLatin1" "()Z" : Cond) ∈ TW := tw_3 (List.mem_of_getElem? (i := 192) (by decide +kernel)) (by decide +kernel)
theorem q3_193 : (.selects "java/lang/StringBuilder" ⟨"java/lang/AbstractStringBuilder","isLatin1","()Z"⟩ ⟨"java/lang/AbstractStringBuilder","isLatin1","()Z"⟩ : Cond) ∈ TW := tw_3 (List.mem_of_getElem? (i := 193) (by decide +kernel)) (by decide +kernel)
theorem q3_194 : (.code ⟨"java/lang/AbstractStringBuilder","isLatin1","()Z"⟩ prog_7_method_68_code 1 (some .boolean) : Cond) ∈ TW := tw_3 (List.mem_of_getElem? (i := 194) (by decide +kernel)) (by decide +kernel)
theorem q3_195 : (.methodLink "java/lang/AbstractStringBuilder" 226 ⟨"java/lang/StringUTF16","putCharsAt","([BICCCC)I"⟩ : Cond) ∈ TW := tw_3 (List.mem_of_getElem? (i := 195) (by decide +kernel)) (by decide +kernel)
theorem q3_196 : (.static ⟨"java/lang/StringUTF16","putCharsAt","([BICCCC)I"⟩ : Cond) ∈ TW := tw_3 (List.mem_of_getElem? (i := 196) (by decide +kernel)) (by decide +kernel)
theorem q3_197 : (.code ⟨"java/lang/StringUTF16","putCharsAt","([BICCCC)I"⟩ prog_26_method_81_code 7 (some .int) : Cond) ∈ TW := tw_3 (List.mem_of_getElem? (i := 197) (by decide +kernel)) (by decide +kernel)
theorem q3_198 : (.methodLink "java/lang/StringUTF16" 96 ⟨"java/lang/StringUTF16","checkBoundsBeginEnd","(II[B)V"⟩ : Cond) ∈ TW := tw_3 (List.mem_of_getElem? (i := 198) (by decide +kernel)) (by decide +kernel)
theorem q3_199 : (.static ⟨"java/lang/StringUTF16","checkBoundsBeginEnd","(II[B)V"⟩ : Cond) ∈ TW := tw_3 (List.mem_of_getElem? (i := 199) (by decide +kernel)) (by decide +kernel)
theorem q3_200 : (.code ⟨"java/lang/StringUTF16","checkBoundsBeginEnd","(II[B)V"⟩ prog_26_method_93_code 3 none : Cond) ∈ TW := tw_3 (List.mem_of_getElem? (i := 200) (by decide +kernel)) (by decide +kernel)
theorem q3_201 : (.methodLink "java/lang/StringUTF16" 48 ⟨"java/lang/StringUTF16","length","([B)I"⟩ : Cond) ∈ TW := tw_3 (List.mem_of_getElem? (i := 201) (by decide +kernel)) (by decide +kernel)
theorem q3_202 : (.static ⟨"java/lang/StringUTF16","length","([B)I"⟩ : Cond) ∈ TW := tw_3 (List.mem_of_getElem? (i := 202) (by decide +kernel)) (by decide +kernel)
theorem q3_203 : (.code ⟨"java/lang/StringUTF16","length","([B)I"⟩ prog_26_method_6_code 1 (some .int) : Cond) ∈ TW := tw_3 (List.mem_of_getElem? (i := 203) (by decide +kernel)) (by decide +kernel)
theorem q3_204 : (.methodLink "java/lang/StringUTF16" 241 ⟨"java/lang/String","checkBoundsBeginEnd","(III)V"⟩ : Cond) ∈ TW := tw_3 (List.mem_of_getElem? (i := 204) (by decide +kernel)) (by decide +kernel)
theorem q3_205 : (.static ⟨"java/lang/String","checkBoundsBeginEnd","(III)V"⟩ : Cond) ∈ TW := tw_3 (List.mem_of_getElem? (i := 205) (by decide +kernel)) (by decide +kernel)
theorem q3_206 : (.code ⟨"java/lang/String","checkBoundsBeginEnd","(III)V"⟩ prog_22_method_158_code 3 none : Cond) ∈ TW := tw_3 (List.mem_of_getElem? (i := 206) (by decide +kernel)) (by decide +kernel)
theorem q3_207 : (.fieldLink "java/lang/String" 1053 "jdk/internal/util/Preconditions" "SIOOBE_FORMATTER" "Ljava/util/function/BiFunction;" : Cond) ∈ TW := tw_3 (List.mem_of_getElem? (i := 207) (by decide +kernel)) (by decide +kernel)
theorem q3_209 : (.methodLink "java/lang/String" 1062 ⟨"jdk/internal/util/Preconditions","checkFromToIndex","(IIILjava/util/function/BiFunction;)I"⟩ : Cond) ∈ TW := tw_3 (List.mem_of_getElem? (i := 209) (by decide +kernel)) (by decide +kernel)
theorem q3_210 : (.static ⟨"jdk/internal/util/Preconditions","checkFromToIndex","(IIILjava/util/function/BiFunction;)I"⟩ : Cond) ∈ TW := tw_3 (List.mem_of_getElem? (i := 210) (by decide +kernel)) (by decide +kernel)
theorem q3_211 : (.code ⟨"jdk/internal/util/Preconditions","checkFromToIndex","(IIILjava/util/function/BiFunction;)I"⟩ prog_41_method_12_code 4 (some .int) : Cond) ∈ TW := tw_3 (List.mem_of_getElem? (i := 211) (by decide +kernel)) (by decide +kernel)
theorem q3_212 : (.methodLink "java/lang/StringUTF16" 111 ⟨"java/lang/StringUTF16","putChar","([BII)V"⟩ : Cond) ∈ TW := tw_3 (List.mem_of_getElem? (i := 212) (by decide +kernel)) (by decide +kernel)
theorem q3_213 : (.static ⟨"java/lang/StringUTF16","putChar","([BII)V"⟩ : Cond) ∈ TW := tw_3 (List.mem_of_getElem? (i := 213) (by decide +kernel)) (by decide +kernel)
theorem q3_214 : (.code ⟨"java/lang/StringUTF16","putChar","([BII)V"⟩ prog_26_method_4_code 3 none : Cond) ∈ TW := tw_3 (List.mem_of_getElem? (i := 214) (by decide +kernel)) (by decide +kernel)
theorem q3_215 : (.fieldLink "java/lang/StringUTF16" 44 "java/lang/StringUTF16" "$assertionsDisabled" "Z" : Cond) ∈ TW := tw_3 (List.mem_of_getElem? (i := 215) (by decide +kernel)) (by decide +kernel)
theorem q3_217 : (.fieldLink "java/lang/StringUTF16" 59 "java/lang/StringUTF16" "HI_BYTE_SHIFT" "I" : Cond) ∈ TW := tw_3 (List.mem_of_getElem? (i := 217) (by decide +kernel)) (by decide +kernel)
theorem q3_219 : (.fieldLink "java/lang/StringUTF16" 63 "java/lang/StringUTF16" "LO_BYTE_SHIFT" "I" : Cond) ∈ TW := tw_3 (List.mem_of_getElem? (i := 219) (by decide +kernel)) (by decide +kernel)
theorem q3_221 : (.methodLink "java/lang/AbstractStringBuilder" 32 ⟨"java/lang/String","length","()I"⟩ : Cond) ∈ TW := tw_3 (List.mem_of_getElem? (i := 221) (by decide +kernel)) (by decide +kernel)
theorem q3_222 : (.instanceMethod ⟨"java/lang/String","length","()I"⟩ : Cond) ∈ TW := tw_3 (List.mem_of_getElem? (i := 222) (by decide +kernel)) (by decide +kernel)
theorem q3_223 : (.selects "java/lang/String" ⟨"java/lang/String","length","()I"⟩ ⟨"java/lang/String","length","()I"⟩ : Cond) ∈ TW := tw_3 (List.mem_of_getElem? (i := 223) (by decide +kernel)) (by decide +kernel)
theorem q3_224 : (.code ⟨"java/lang/String","length","()I"⟩ prog_22_method_54_code 1 (some .int) : Cond) ∈ TW := tw_3 (List.mem_of_getElem? (i := 224) (by decide +kernel)) (by decide +kernel)
theorem q3_225 : (.methodLink "java/lang/String" 335 ⟨"java/lang/String","coder","()B"⟩ : Cond) ∈ TW := tw_3 (List.mem_of_getElem? (i := 225) (by decide +kernel)) (by decide +kernel)
theorem q3_226 : (.instanceMethod ⟨"java/lang/String","coder","()B"⟩ : Cond) ∈ TW := tw_3 (List.mem_of_getElem? (i := 226) (by decide +kernel)) (by decide +kernel)
theorem q3_227 : (.selects "java/lang/String" ⟨"java/lang/String","coder","()B"⟩ ⟨"java/lang/String","coder","()B"⟩ : Cond) ∈ TW := tw_3 (List.mem_of_getElem? (i := 227) (by decide +kernel)) (by decide +kernel)
theorem q3_228 : (.code ⟨"java/lang/String","coder","()B"⟩ prog_22_method_152_code 1 (some .byte) : Cond) ∈ TW := tw_3 (List.mem_of_getElem? (i := 228) (by decide +kernel)) (by decide +kernel)
theorem q3_229 : (.fieldLink "java/lang/String" 38 "java/lang/String" "COMPACT_STRINGS" "Z" : Cond) ∈ TW := tw_3 (List.mem_of_getElem? (i := 229) (by decide +kernel)) (by decide +kernel)
theorem q3_230 : (.methodLink "java/lang/AbstractStringBuilder" 208 ⟨"java/lang/AbstractStringBuilder","putStringAt","(ILjava/lang/String;)V"⟩ : Cond) ∈ TW := tw_3 (List.mem_of_getElem? (i := 230) (by decide +kernel)) (by decide +kernel)
theorem q3_231 : (.privateMethod ⟨"java/lang/AbstractStringBuilder","putStringAt","(ILjava/lang/String;)V"⟩ : Cond) ∈ TW := tw_3 (List.mem_of_getElem? (i := 231) (by decide +kernel)) (by decide +kernel)
theorem q3_232 : (.instanceMethod ⟨"java/lang/AbstractStringBuilder","putStringAt","(ILjava/lang/String;)V"⟩ : Cond) ∈ TW := tw_3 (List.mem_of_getElem? (i := 232) (by decide +kernel)) (by decide +kernel)
theorem q3_233 : (.code ⟨"java/lang/AbstractStringBuilder","putStringAt","(ILjava/lang/String;)V"⟩ prog_7_method_73_code 3 none : Cond) ∈ TW := tw_3 (List.mem_of_getElem? (i := 233) (by decide +kernel)) (by decide +kernel)
theorem q3_234 : (.methodLink "java/lang/AbstractStringBuilder" 397 ⟨"java/lang/AbstractStringBuilder","inflateIfNeededFor","(Ljava/lang/String;)V"⟩ : Cond) ∈ TW := tw_3 (List.mem_of_getElem? (i := 234) (by decide +kernel)) (by decide +kernel)
theorem q3_235 : (.privateMethod ⟨"java/lang/AbstractStringBuilder","inflateIfNeededFor","(Ljava/lang/String;)V"⟩ : Cond) ∈ TW := tw_3 (List.mem_of_getElem? (i := 235) (by decide +kernel)) (by decide +kernel)
theorem q3_236 : (.instanceMethod ⟨"java/lang/AbstractStringBuilder","inflateIfNeededFor","(Ljava/lang/String;)V"⟩ : Cond) ∈ TW := tw_3 (List.mem_of_getElem? (i := 236) (by decide +kernel)) (by decide +kernel)
theorem q3_237 : (.code ⟨"java/lang/AbstractStringBuilder","inflateIfNeededFor","(Ljava/lang/String;)V"⟩ prog_7_method_71_code 2 none : Cond) ∈ TW := tw_3 (List.mem_of_getElem? (i := 237) (by decide +kernel)) (by decide +kernel)
theorem q3_238 : (.methodLink "java/lang/AbstractStringBuilder" 40 ⟨"java/lang/String","coder","()B"⟩ : Cond) ∈ TW := tw_3 (List.mem_of_getElem? (i := 238) (by decide +kernel)) (by decide +kernel)
theorem q3_239 : (.methodLink "java/lang/AbstractStringBuilder" 195 ⟨"java/lang/AbstractStringBuilder","inflate","()V"⟩ : Cond) ∈ TW := tw_3 (List.mem_of_getElem? (i := 239) (by decide +kernel)) (by decide +kernel)
theorem q4_0 : (.privateMethod ⟨"java/lang/AbstractStringBuilder","inflate","()V"⟩ : Cond) ∈ TW := tw_4 (List.mem_of_getElem? (i := 0) (by decide +kernel)) (by decide +kernel)
theorem q4_1 : (.instanceMethod ⟨"java/lang/AbstractStringBuilder","inflate","()V"⟩ : Cond) ∈ TW := tw_4 (List.mem_of_getElem? (i := 1) (by decide +kernel)) (by decide +kernel)
theorem q4_2 : (.code ⟨"java/lang/AbstractStringBuilder","inflate","()V"⟩ prog_7_method_11_code 2 none : Cond) ∈ TW := tw_4 (List.mem_of_getElem? (i := 2) (by decide +kernel)) (by decide +kernel)
theorem q4_3 : (.methodLink "java/lang/AbstractStringBuilder" 125 ⟨"java/lang/StringLatin1","inflate","([BI[BII)V"⟩ : Cond) ∈ TW := tw_4 (List.mem_of_getElem? (i := 3) (by decide +kernel)) (by decide +kernel)
theorem q4_4 : (.static ⟨"java/lang/StringLatin1","inflate","([BI[BII)V"⟩ : Cond) ∈ TW := tw_4 (List.mem_of_getElem? (i := 4) (by decide +kernel)) (by decide +kernel)
theorem q4_5 : (.code ⟨"java/lang/StringLatin1","inflate","([BI[BII)V"⟩ prog_25_method_50_code 5 none : Cond) ∈ TW := tw_4 (List.mem_of_getElem? (i := 5) (by decide +kernel)) (by decide +kernel)
theorem q4_6 : (.methodLink "java/lang/StringLatin1" 240 ⟨"java/lang/StringUTF16","inflate","([BI[BII)V"⟩ : Cond) ∈ TW := tw_4 (List.mem_of_getElem? (i := 6) (by decide +kernel)) (by decide +kernel)
theorem q4_7 : (.static ⟨"java/lang/StringUTF16","inflate","([BI[BII)V"⟩ : Cond) ∈ TW := tw_4 (List.mem_of_getElem? (i := 7) (by decide +kernel)) (by decide +kernel)
theorem q4_8 : (.code ⟨"java/lang/StringUTF16","inflate","([BI[BII)V"⟩ prog_26_method_86_code 6 none : Cond) ∈ TW := tw_4 (List.mem_of_getElem? (i := 8) (by decide +kernel)) (by decide +kernel)
theorem q4_9 : (.methodLink "java/lang/StringUTF16" 173 ⟨"java/lang/StringUTF16","checkBoundsOffCount","(II[B)V"⟩ : Cond) ∈ TW := tw_4 (List.mem_of_getElem? (i := 9) (by decide +kernel)) (by decide +kernel)
theorem q4_10 : (.static ⟨"java/lang/StringUTF16","checkBoundsOffCount","(II[B)V"⟩ : Cond) ∈ TW := tw_4 (List.mem_of_getElem? (i := 10) (by decide +kernel)) (by decide +kernel)
theorem q4_11 : (.code ⟨"java/lang/StringUTF16","checkBoundsOffCount","(II[B)V"⟩ prog_26_method_94_code 3 none : Cond) ∈ TW := tw_4 (List.mem_of_getElem? (i := 11) (by decide +kernel)) (by decide +kernel)
theorem q4_12 : (.methodLink "java/lang/StringUTF16" 419 ⟨"java/lang/String","checkBoundsOffCount","(III)I"⟩ : Cond) ∈ TW := tw_4 (List.mem_of_getElem? (i := 12) (by decide +kernel)) (by decide +kernel)
theorem q4_13 : (.static ⟨"java/lang/String","checkBoundsOffCount","(III)I"⟩ : Cond) ∈ TW := tw_4 (List.mem_of_getElem? (i := 13) (by decide +kernel)) (by decide +kernel)
theorem q4_14 : (.code ⟨"java/lang/String","checkBoundsOffCount","(III)I"⟩ prog_22_method_157_code 3 (some .int) : Cond) ∈ TW := tw_4 (List.mem_of_getElem? (i := 14) (by decide +kernel)) (by decide +kernel)
theorem q4_15 : (.methodLink "java/lang/String" 1065 ⟨"jdk/internal/util/Preconditions","checkFromIndexSize","(IIILjava/util/function/BiFunction;)I"⟩ : Cond) ∈ TW := tw_4 (List.mem_of_getElem? (i := 15) (by decide +kernel)) (by decide +kernel)
theorem q4_16 : (.static ⟨"jdk/internal/util/Preconditions","checkFromIndexSize","(IIILjava/util/function/BiFunction;)I"⟩ : Cond) ∈ TW := tw_4 (List.mem_of_getElem? (i := 16) (by decide +kernel)) (by decide +kernel)
theorem q4_17 : (.code ⟨"jdk/internal/util/Preconditions","checkFromIndexSize","(IIILjava/util/function/BiFunction;)I"⟩ prog_41_method_13_code 4 (some .int) : Cond) ∈ TW := tw_4 (List.mem_of_getElem? (i := 17) (by decide +kernel)) (by decide +kernel)
theorem q4_18 : (.methodLink "java/lang/AbstractStringBuilder" 399 ⟨"java/lang/String","getBytes","([BIB)V"⟩ : Cond) ∈ TW := tw_4 (List.mem_of_getElem? (i := 18) (by decide +kernel)) (by decide +kernel)
theorem q4_19 : (.instanceMethod ⟨"java/lang/String","getBytes","([BIB)V"⟩ : Cond) ∈ TW := tw_4 (List.mem_of_getElem? (i := 19) (by decide +kernel)) (by decide +kernel)
theorem q4_20 : (.selects "java/lang/String" ⟨"java/lang/String","getBytes","([BIB)V"⟩ ⟨"java/lang/String","getBytes","([BIB)V"⟩ : Cond) ∈ TW := tw_4 (List.mem_of_getElem? (i := 20) (by decide +kernel)) (by decide +kernel)
theorem q4_21 : (.code ⟨"java/lang/String","getBytes","([BIB)V"⟩ prog_22_method_147_code 4 none : Cond) ∈ TW := tw_4 (List.mem_of_getElem? (i := 21) (by decide +kernel)) (by decide +kernel)
theorem q4_22 : (.methodLink "java/lang/String" 212 ⟨"java/lang/System","arraycopy","(Ljava/lang/Object;ILjava/lang/Object;II)V"⟩ : Cond) ∈ TW := tw_4 (List.mem_of_getElem? (i := 22) (by decide +kernel)) (by decide +kernel)
theorem q4_23 : (.methodLink "java/lang/String" 106 ⟨"java/lang/StringLatin1","inflate","([BI[BII)V"⟩ : Cond) ∈ TW := tw_4 (List.mem_of_getElem? (i := 23) (by decide +kernel)) (by decide +kernel)
theorem q4_24 : (.methodLink "java/lang/StringIndexOutOfBoundsException" 19 ⟨"java/lang/StringBuilder","append","(I)Ljava/lang/StringBuilder;"⟩ : Cond) ∈ TW := tw_4 (List.mem_of_getElem? (i := 24) (by decide +kernel)) (by decide +kernel)
theorem q4_25 : (.instanceMethod ⟨"java/lang/StringBuilder","append","(I)Ljava/lang/StringBuilder;"⟩ : Cond) ∈ TW := tw_4 (List.mem_of_getElem? (i := 25) (by decide +kernel)) (by decide +kernel)
theorem q4_26 : (.selects "java/lang/StringBuilder" ⟨"java/lang/StringBuilder","append","(I)Ljava/lang/StringBuilder;"⟩ ⟨"java/lang/StringBuilder","append","(I)Ljava/lang/StringBuilder;"⟩ : Cond) ∈ TW := tw_4 (List.mem_of_getElem? (i := 26) (by decide +kernel)) (by decide +kernel)
theorem q4_27 : (.code ⟨"java/lang/StringBuilder","append","(I)Ljava/lang/StringBuilder;"⟩ prog_23_method_15_code 2 (some (.object "java/lang/StringBuilder")) : Cond) ∈ TW := tw_4 (List.mem_of_getElem? (i := 27) (by decide +kernel)) (by decide +kernel)
theorem q4_28 : (.methodLink "java/lang/StringBuilder" 53 ⟨"java/lang/AbstractStringBuilder","append","(I)Ljava/lang/AbstractStringBuilder;"⟩ : Cond) ∈ TW := tw_4 (List.mem_of_getElem? (i := 28) (by decide +kernel)) (by decide +kernel)
theorem q4_29 : (.instanceMethod ⟨"java/lang/AbstractStringBuilder","append","(I)Ljava/lang/AbstractStringBuilder;"⟩ : Cond) ∈ TW := tw_4 (List.mem_of_getElem? (i := 29) (by decide +kernel)) (by decide +kernel)
theorem q4_30 : (.code ⟨"java/lang/AbstractStringBuilder","append","(I)Ljava/lang/AbstractStringBuilder;"⟩ prog_7_method_32_code 4 (some (.object "java/lang/AbstractStringBuilder")) : Cond) ∈ TW := tw_4 (List.mem_of_getElem? (i := 30) (by decide +kernel)) (by decide +kernel)
theorem q4_31 : (.methodLink "java/lang/AbstractStringBuilder" 245 ⟨"java/lang/Integer","stringSize","(I)I"⟩ : Cond) ∈ TW := tw_4 (List.mem_of_getElem? (i := 31) (by decide +kernel)) (by decide +kernel)
theorem q4_32 : (.static ⟨"java/lang/Integer","stringSize","(I)I"⟩ : Cond) ∈ TW := tw_4 (List.mem_of_getElem? (i := 32) (by decide +kernel)) (by decide +kernel)
theorem q4_33 : (.code ⟨"java/lang/Integer","stringSize","(I)I"⟩ prog_17_method_13_code 4 (some .int) : Cond) ∈ TW := tw_4 (List.mem_of_getElem? (i := 33) (by decide +kernel)) (by decide +kernel)
theorem q4_34 : (.methodLink "java/lang/AbstractStringBuilder" 248 ⟨"java/lang/Integer","getChars","(II[B)I"⟩ : Cond) ∈ TW := tw_4 (List.mem_of_getElem? (i := 34) (by decide +kernel)) (by decide +kernel)
theorem q4_35 : (.static ⟨"java/lang/Integer","getChars","(II[B)I"⟩ : Cond) ∈ TW := tw_4 (List.mem_of_getElem? (i := 35) (by decide +kernel)) (by decide +kernel)
theorem q4_36 : (.code ⟨"java/lang/Integer","getChars","(II[B)I"⟩ prog_17_method_12_code 7 (some .int) : Cond) ∈ TW := tw_4 (List.mem_of_getElem? (i := 36) (by decide +kernel)) (by decide +kernel)
theorem q4_37 : (.fieldLink "java/lang/Integer" 83 "java/lang/Integer" "DigitOnes" "[B" : Cond) ∈ TW := tw_4 (List.mem_of_getElem? (i := 37) (by decide +kernel)) (by decide +kernel)
theorem q4_39 : (.fieldLink "java/lang/Integer" 87 "java/lang/Integer" "DigitTens" "[B" : Cond) ∈ TW := tw_4 (List.mem_of_getElem? (i := 39) (by decide +kernel)) (by decide +kernel)
theorem q4_41 : (.methodLink "java/lang/AbstractStringBuilder" 251 ⟨"java/lang/StringUTF16","getChars","(III[B)I"⟩ : Cond) ∈ TW := tw_4 (List.mem_of_getElem? (i := 41) (by decide +kernel)) (by decide +kernel)
theorem q4_42 : (.static ⟨"java/lang/StringUTF16","getChars","(III[B)I"⟩ : Cond) ∈ TW := tw_4 (List.mem_of_getElem? (i := 42) (by decide +kernel)) (by decide +kernel)
theorem q4_43 : (.code ⟨"java/lang/StringUTF16","getChars","(III[B)I"⟩ prog_26_method_77_code 5 (some .int) : Cond) ∈ TW := tw_4 (List.mem_of_getElem? (i := 43) (by decide +kernel)) (by decide +kernel)
theorem q4_44 : (.methodLink "java/lang/StringUTF16" 393 ⟨"java/lang/StringUTF16","getChars","(II[B)I"⟩ : Cond) ∈ TW := tw_4 (List.mem_of_getElem? (i := 44) (by decide +kernel)) (by decide +kernel)
theorem q4_45 : (.static ⟨"java/lang/StringUTF16","getChars","(II[B)I"⟩ : Cond) ∈ TW := tw_4 (List.mem_of_getElem? (i := 45) (by decide +kernel)) (by decide +kernel)
theorem q4_46 : (.code ⟨"java/lang/StringUTF16","getChars","(II[B)I"⟩ prog_26_method_89_code 7 (some .int) : Cond) ∈ TW := tw_4 (List.mem_of_getElem? (i := 46) (by decide +kernel)) (by decide +kernel)
theorem q4_47 : (.fieldLink "java/lang/StringUTF16" 403 "java/lang/Integer" "DigitOnes" "[B" : Cond) ∈ TW := tw_4 (List.mem_of_getElem? (i := 47) (by decide +kernel)) (by decide +kernel)
theorem q4_48 : (.fieldLink "java/lang/StringUTF16" 407 "java/lang/Integer" "DigitTens" "[B" : Cond) ∈ TW := tw_4 (List.mem_of_getElem? (i := 48) (by decide +kernel)) (by decide +kernel)
theorem q4_49 : (.methodLink "java/lang/StringIndexOutOfBoundsException" 22 ⟨"java/lang/StringBuilder","toString","()Ljava/lang/String;"⟩ : Cond) ∈ TW := tw_4 (List.mem_of_getElem? (i := 49) (by decide +kernel)) (by decide +kernel)
theorem q4_50 : (.instanceMethod ⟨"java/lang/StringBuilder","toString","()Ljava/lang/String;"⟩ : Cond) ∈ TW := tw_4 (List.mem_of_getElem? (i := 50) (by decide +kernel)) (by decide +kernel)
theorem q4_51 : (.selects "java/lang/StringBuilder" ⟨"java/lang/StringBuilder","toString","()Ljava/lang/String;"⟩ ⟨"java/lang/StringBuilder","toString","()Ljava/lang/String;"⟩ : Cond) ∈ TW := tw_4 (List.mem_of_getElem? (i := 51) (by decide +kernel)) (by decide +kernel)
theorem q4_52 : (.code ⟨"java/lang/StringBuilder","toString","()Ljava/lang/String;"⟩ prog_23_method_42_code 1 (some (.object "java/lang/String")) : Cond) ∈ TW := tw_4 (List.mem_of_getElem? (i := 52) (by decide +kernel)) (by decide +kernel)
theorem q4_53 : (.classLink "java/lang/StringBuilder" 18 "java/lang/String" : Cond) ∈ TW := tw_4 (List.mem_of_getElem? (i := 53) (by decide +kernel)) (by decide +kernel)
theorem q4_54 : (.instantiable "java/lang/String" 4 : Cond) ∈ TW := tw_4 (List.mem_of_getElem? (i := 54) (by decide +kernel)) (by decide +kernel)
theorem q4_55 : (.methodLink "java/lang/StringBuilder" 137 ⟨"java/lang/String","<init>","(Ljava/lang/StringBuilder;)V"⟩ : Cond) ∈ TW := tw_4 (List.mem_of_getElem? (i := 55) (by decide +kernel)) (by decide +kernel)
theorem q4_56 : (.instanceMethod ⟨"java/lang/String","<init>","(Ljava/lang/StringBuilder;)V"⟩ : Cond) ∈ TW := tw_4 (List.mem_of_getElem? (i := 56) (by decide +kernel)) (by decide +kernel)
theorem q4_57 : (.code ⟨"java/lang/String","<init>","(Ljava/lang/StringBuilder;)V"⟩ prog_22_method_53_code 2 none : Cond) ∈ TW := tw_4 (List.mem_of_getElem? (i := 57) (by decide +kernel)) (by decide +kernel)
theorem q4_58 : (.methodLink "java/lang/String" 489 ⟨"java/lang/String","<init>","(Ljava/lang/AbstractStringBuilder;Ljava/lang/Void;)V"⟩ : Cond) ∈ TW := tw_4 (List.mem_of_getElem? (i := 58) (by decide +kernel)) (by decide +kernel)
theorem q4_59 : (.instanceMethod ⟨"java/lang/String","<init>","(Ljava/lang/AbstractStringBuilder;Ljava/lang/Void;)V"⟩ : Cond) ∈ TW := tw_4 (List.mem_of_getElem? (i := 59) (by decide +kernel)) (by decide +kernel)
theorem q4_60 : (.code ⟨"java/lang/String","<init>","(Ljava/lang/AbstractStringBuilder;Ljava/lang/Void;)V"⟩ prog_22_method_150_code 5 none : Cond) ∈ TW := tw_4 (List.mem_of_getElem? (i := 60) (by decide +kernel)) (by decide +kernel)
theorem q4_61 : (.methodLink "java/lang/String" 1 ⟨"java/lang/Object","<init>","()V"⟩ : Cond) ∈ TW := tw_4 (List.mem_of_getElem? (i := 61) (by decide +kernel)) (by decide +kernel)
theorem q4_62 : (.methodLink "java/lang/String" 552 ⟨"java/lang/AbstractStringBuilder","getValue","()[B"⟩ : Cond) ∈ TW := tw_4 (List.mem_of_getElem? (i := 62) (by decide +kernel)) (by decide +kernel)
theorem q4_63 : (.instanceMethod ⟨"java/lang/AbstractStringBuilder","getValue","()[B"⟩ : Cond) ∈ TW := tw_4 (List.mem_of_getElem? (i := 63) (by decide +kernel)) (by decide +kernel)
theorem q4_64 : (.sameMethod "java/lang/AbstractStringBuilder" "java/lang/AbstractStringBuilder" "getValue" "()[B" : Cond) ∈ TW := tw_4 (List.mem_of_getElem? (i := 64) (by decide +kernel)) (by decide +kernel)
theorem q4_65 : (.selects "java/lang/StringBuilder" ⟨"java/lang/AbstractStringBuilder","getValue","()[B"⟩ ⟨"java/lang/AbstractStringBuilder","getValue","()[B"⟩ : Cond) ∈ TW := tw_4 (List.mem_of_getElem? (i := 65) (by decide +kernel)) (by decide +kernel)
theorem q4_66 : (.code ⟨"java/lang/AbstractStringBuilder","getValue","()[B"⟩ prog_7_method_64_code 1 (some (.array .byte)) : Cond) ∈ TW := tw_4 (List.mem_of_getElem? (i := 66) (by decide +kernel)) (by decide +kernel)
theorem q4_67 : (.methodLink "java/lang/String" 549 ⟨"java/lang/AbstractStringBuilder","length","()I"⟩ : Cond) ∈ TW := tw_4 (List.mem_of_getElem? (i := 67) (by decide +kernel)) (by decide +kernel)
theorem q4_68 : (.instanceMethod ⟨"java/lang/AbstractStringBuilder","length","()I"⟩ : Cond) ∈ TW := tw_4 (List.mem_of_getElem? (i := 68) (by decide +kernel)) (by decide +kernel)
theorem q4_69 : (.sameMethod "java/lang/AbstractStringBuilder" "java/lang/AbstractStringBuilder" "length" "()I" : Cond) ∈ TW := tw_4 (List.mem_of_getElem? (i := 69) (by decide +kernel)) (by decide +kernel)
theorem q4_70 : (.selects "java/lang/StringBuilder" ⟨"java/lang/AbstractStringBuilder","length","()I"⟩ ⟨"java/lang/StringBuilder","length","()I"⟩ : Cond) ∈ TW := tw_4 (List.mem_of_getElem? (i := 70) (by decide +kernel)) (by decide +kernel)
theorem q4_71 : (.instanceMethod ⟨"java/lang/StringBuilder","length","()I"⟩ : Cond) ∈ TW := tw_4 (List.mem_of_getElem? (i := 71) (by decide +kernel)) (by decide +kernel)
theorem q4_72 : (.code ⟨"java/lang/StringBuilder","length","()I"⟩ prog_23_method_93_code 1 (some .int) : Cond) ∈ TW := tw_4 (List.mem_of_getElem? (i := 72) (by decide +kernel)) (by decide +kernel)
theorem q4_73 : (.methodLink "java/lang/StringBuilder" 343 ⟨"java/lang/AbstractStringBuilder","length","()I"⟩ : Cond) ∈ TW := tw_4 (List.mem_of_getElem? (i := 73) (by decide +kernel)) (by decide +kernel)
theorem q4_74 : (.code ⟨"java/lang/AbstractStringBuilder","length","()I"⟩ prog_7_method_6_code 1 (some .int) : Cond) ∈ TW := tw_4 (List.mem_of_getElem? (i := 74) (by decide +kernel)) (by decide +kernel)
theorem q4_75 : (.methodLink "java/lang/String" 1047 ⟨"java/lang/AbstractStringBuilder","isLatin1","()Z"⟩ : Cond) ∈ TW := tw_4 (List.mem_of_getElem? (i := 75) (by decide +kernel)) (by decide +kernel)
theorem q4_76 : (.methodLink "java/lang/String" 54 ⟨"java/util/Arrays","copyOfRange","([BII)[B"⟩ : Cond) ∈ TW := tw_4 (List.mem_of_getElem? (i := 76) (by decide +kernel)) (by decide +kernel)
theorem q4_77 : (.static ⟨"java/util/Arrays","copyOfRange","([BII)[B"⟩ : Cond) ∈ TW := tw_4 (List.mem_of_getElem? (i := 77) (by decide +kernel)) (by decide +kernel)
theorem q4_78 : (.code ⟨"java/util/Arrays","copyOfRange","([BII)[B"⟩ prog_34_method_132_code 3 (some (.array .byte)) : Cond) ∈ TW := tw_4 (List.mem_of_getElem? (i := 78) (by decide +kernel)) (by decide +kernel)
theorem q4_79 : (.methodLink "java/util/Arrays" 339 ⟨"java/util/Arrays","copyOfRangeByte","([BII)[B"⟩ : Cond) ∈ TW := tw_4 (List.mem_of_getElem? (i := 79) (by decide +kernel)) (by decide +kernel)
theorem q4_80 : (.static ⟨"java/util/Arrays","copyOfRangeByte","([BII)[B"⟩ : Cond) ∈ TW := tw_4 (List.mem_of_getElem? (i := 80) (by decide +kernel)) (by decide +kernel)
theorem q4_81 : (.code ⟨"java/util/Arrays","copyOfRangeByte","([BII)[B"⟩ prog_34_method_133_code 5 (some (.array .byte)) : Cond) ∈ TW := tw_4 (List.mem_of_getElem? (i := 81) (by decide +kernel)) (by decide +kernel)
theorem q4_82 : (.methodLink "java/util/Arrays" 343 ⟨"java/util/Arrays","checkLength","(II)V"⟩ : Cond) ∈ TW := tw_4 (List.mem_of_getElem? (i := 82) (by decide +kernel)) (by decide +kernel)
theorem q4_83 : (.static ⟨"java/util/Arrays","checkLength","(II)V"⟩ : Cond) ∈ TW := tw_4 (List.mem_of_getElem? (i := 83) (by decide +kernel)) (by decide +kernel)
theorem q4_84 : (.code ⟨"java/util/Arrays","checkLength","(II)V"⟩ prog_34_method_131_code 2 none : Cond) ∈ TW := tw_4 (List.mem_of_getElem? (i := 84) (by decide +kernel)) (by decide +kernel)
theorem q4_85 : (.classLink "java/util/Arrays" 43 "java/lang/IllegalArgumentException" : Cond) ∈ TW := tw_4 (List.mem_of_getElem? (i := 85) (by decide +kernel)) (by decide +kernel)
theorem q4_86 : (.classLink "java/util/Arrays" 45 "java/lang/StringBuilder" : Cond) ∈ TW := tw_4 (List.mem_of_getElem? (i := 86) (by decide +kernel)) (by decide +kernel)
theorem q4_87 : (.methodLink "java/util/Arrays" 47 ⟨"java/lang/StringBuilder","<init>","()V"⟩ : Cond) ∈ TW := tw_4 (List.mem_of_getElem? (i := 87) (by decide +kernel)) (by decide +kernel)
theorem q4_88 : (.methodLink "java/util/Arrays" 54 ⟨"java/lang/StringBuilder","append","(I)Ljava/lang/StringBuilder;"⟩ : Cond) ∈ TW := tw_4 (List.mem_of_getElem? (i := 88) (by decide +kernel)) (by decide +kernel)
theorem q4_90 : (.methodLink "java/util/Arrays" 50 ⟨"java/lang/StringBuilder","append","(Ljava/lang/String;)Ljava/lang/StringBuilder;"⟩ : Cond) ∈ TW := tw_4 (List.mem_of_getElem? (i := 90) (by decide +kernel)) (by decide +kernel)
theorem q4_91 : (.methodLink "java/util/Arrays" 61 ⟨"java/lang/StringBuilder","toString","()Ljava/lang/String;"⟩ : Cond) ∈ TW := tw_4 (List.mem_of_getElem? (i := 91) (by decide +kernel)) (by decide +kernel)
theorem q4_92 : (.methodLink "java/util/Arrays" 65 ⟨"java/lang/IllegalArgumentException","<init>","(Ljava/lang/String;)V"⟩ : Cond) ∈ TW := tw_4 (List.mem_of_getElem? (i := 92) (by decide +kernel)) (by decide +kernel)
theorem q4_93 : (.methodLink "java/lang/String" 1051 ⟨"java/lang/StringUTF16","compress","([BII)[B"⟩ : Cond) ∈ TW := tw_4 (List.mem_of_getElem? (i := 93) (by decide +kernel)) (by decide +kernel)
theorem q4_94 : (.static ⟨"java/lang/StringUTF16","compress","([BII)[B"⟩ : Cond) ∈ TW := tw_4 (List.mem_of_getElem? (i := 94) (by decide +kernel)) (by decide +kernel)
theorem q4_95 : (.code ⟨"java/lang/StringUTF16","compress","([BII)[B"⟩ prog_26_method_17_code 6 (some (.array .byte)) : Cond) ∈ TW := tw_4 (List.mem_of_getElem? (i := 95) (by decide +kernel)) (by decide +kernel)
theorem q4_96 : (.methodLink "java/lang/StringUTF16" 123 ⟨"java/lang/StringUTF16","compress","([BI[BII)I"⟩ : Cond) ∈ TW := tw_4 (List.mem_of_getElem? (i := 96) (by decide +kernel)) (by decide +kernel)
theorem q4_97 : (.static ⟨"java/lang/StringUTF16","compress","([BI[BII)I"⟩ : Cond) ∈ TW := tw_4 (List.mem_of_getElem? (i := 97) (by decide +kernel)) (by decide +kernel)
theorem q4_98 : (.code ⟨"java/lang/StringUTF16","compress","([BI[BII)I"⟩ prog_26_method_22_code 7 (some .int) : Cond) ∈ TW := tw_4 (List.mem_of_getElem? (i := 98) (by decide +kernel)) (by decide +kernel)
theorem q4_99 : (.methodLink "java/lang/StringUTF16" 71 ⟨"java/lang/StringUTF16","getChar","([BI)C"⟩ : Cond) ∈ TW := tw_4 (List.mem_of_getElem? (i := 99) (by decide +kernel)) (by decide +kernel)
theorem q4_100 : (.static ⟨"java/lang/StringUTF16","getChar","([BI)C"⟩ : Cond) ∈ TW := tw_4 (List.mem_of_getElem? (i := 100) (by decide +kernel)) (by decide +kernel)
theorem q4_101 : (.code ⟨"java/lang/StringUTF16","getChar","([BI)C"⟩ prog_26_method_5_code 2 (some .char) : Cond) ∈ TW := tw_4 (List.mem_of_getElem? (i := 101) (by decide +kernel)) (by decide +kernel)
theorem q4_102 : (.methodLink "java/lang/StringUTF16" 126 ⟨"java/util/Arrays","copyOfRange","([BII)[B"⟩ : Cond) ∈ TW := tw_4 (List.mem_of_getElem? (i := 102) (by decide +kernel)) (by decide +kernel)
theorem q4_103 : (.methodLink "java/lang/String" 47 ⟨"java/lang/StringUTF16","coderFromArrayLen","([BI)B"⟩ : Cond) ∈ TW := tw_4 (List.mem_of_getElem? (i := 103) (by decide +kernel)) (by decide +kernel)
theorem q4_104 : (.static ⟨"java/lang/StringUTF16","coderFromArrayLen","([BI)B"⟩ : Cond) ∈ TW := tw_4 (List.mem_of_getElem? (i := 104) (by decide +kernel)) (by decide +kernel)
theorem q4_105 : (.code ⟨"java/lang/StringUTF16","coderFromArrayLen","([BI)B"⟩ prog_26_method_15_code 2 (some .byte) : Cond) ∈ TW := tw_4 (List.mem_of_getElem? (i := 105) (by decide +kernel)) (by decide +kernel)
theorem q4_106 : (.fieldLink "java/lang/String" 9 "java/lang/String" "value" "[B" : Cond) ∈ TW := tw_4 (List.mem_of_getElem? (i := 106) (by decide +kernel)) (by decide +kernel)
theorem q4_107 : (.fieldLink "java/lang/String" 15 "java/lang/String" "coder" "B" : Cond) ∈ TW := tw_4 (List.mem_of_getElem? (i := 107) (by decide +kernel)) (by decide +kernel)
theorem q4_108 : (.laysFinal "java/lang/String" "java/lang/String" "value" "[B" : Cond) ∈ TW := tw_4 (List.mem_of_getElem? (i := 108) (by decide +kernel)) (by decide +kernel)
theorem q4_109 : (.soleField "java/lang/String" "value" : Cond) ∈ TW := tw_4 (List.mem_of_getElem? (i := 109) (by decide +kernel)) (by decide +kernel)
theorem q4_110 : (.laysFinal "java/lang/String" "java/lang/String" "coder" "B" : Cond) ∈ TW := tw_4 (List.mem_of_getElem? (i := 110) (by decide +kernel)) (by decide +kernel)
theorem q4_111 : (.soleField "java/lang/String" "coder" : Cond) ∈ TW := tw_4 (List.mem_of_getElem? (i := 111) (by decide +kernel)) (by decide +kernel)
theorem q4_112 : (.lays "java/lang/String" "java/lang/String" "hash" "I" : Cond) ∈ TW := tw_4 (List.mem_of_getElem? (i := 112) (by decide +kernel)) (by decide +kernel)
theorem q4_113 : (.soleField "java/lang/String" "hash" : Cond) ∈ TW := tw_4 (List.mem_of_getElem? (i := 113) (by decide +kernel)) (by decide +kernel)
theorem q4_114 : (.lays "java/lang/String" "java/lang/String" "hashIsZero" "Z" : Cond) ∈ TW := tw_4 (List.mem_of_getElem? (i := 114) (by decide +kernel)) (by decide +kernel)
theorem q4_115 : (.soleField "java/lang/String" "hashIsZero" : Cond) ∈ TW := tw_4 (List.mem_of_getElem? (i := 115) (by decide +kernel)) (by decide +kernel)
theorem q4_116 : (.superclass "java/lang/String" "java/lang/Object" : Cond) ∈ TW := tw_4 (List.mem_of_getElem? (i := 116) (by decide +kernel)) (by decide +kernel)
theorem q4_117 : (.methodLink "java/lang/StringIndexOutOfBoundsException" 7 ⟨"java/lang/IndexOutOfBoundsException","<init>","(Ljava/lang/String;)V"⟩ : Cond) ∈ TW := tw_4 (List.mem_of_getElem? (i := 117) (by decide +kernel)) (by decide +kernel)
theorem q4_118 : (.lays "java/lang/StringIndexOutOfBoundsException" "java/lang/Throwable" "backtrace" "Ljava/lang/Object;" : Cond) ∈ TW := tw_4 (List.mem_of_getElem? (i := 118) (by decide +kernel)) (by decide +kernel)
theorem q4_119 : (.lays "java/lang/StringIndexOutOfBoundsException" "java/lang/Throwable" "detailMessage" "Ljava/lang/String;" : Cond) ∈ TW := tw_4 (List.mem_of_getElem? (i := 119) (by decide +kernel)) (by decide +kernel)
theorem q4_120 : (.lays "java/lang/StringIndexOutOfBoundsException" "java/lang/Throwable" "cause" "Ljava/lang/Throwable;" : Cond) ∈ TW := tw_4 (List.mem_of_getElem? (i := 120) (by decide +kernel)) (by decide +kernel)
theorem q4_121 : (.lays "java/lang/StringIndexOutOfBoundsException" "java/lang/Throwable" "stackTrace" "[Ljava/lang/StackTraceElement;" : Cond) ∈ TW := tw_4 (List.mem_of_getElem? (i := 121) (by decide +kernel)) (by decide +kernel)
theorem q4_122 : (.lays "java/lang/StringIndexOutOfBoundsException" "java/lang/Throwable" "depth" "I" : Cond) ∈ TW := tw_4 (List.mem_of_getElem? (i := 122) (by decide +kernel)) (by decide +kernel)
theorem q4_123 : (.lays "java/lang/StringIndexOutOfBoundsException" "java/lang/Throwable" "suppressedExceptions" "Ljava/util/List;" : Cond) ∈ TW := tw_4 (List.mem_of_getElem? (i := 123) (by decide +kernel)) (by decide +kernel)
theorem q4_124 : (.superclass "java/lang/StringIndexOutOfBoundsException" "java/lang/IndexOutOfBoundsException" : Cond) ∈ TW := tw_4 (List.mem_of_getElem? (i := 124) (by decide +kernel)) (by decide +kernel)
theorem q4_125 : (.methodLink "java/lang/AbstractStringBuilder" 133 ⟨"java/lang/StringLatin1","fillNull","([BII)V"⟩ : Cond) ∈ TW := tw_4 (List.mem_of_getElem? (i := 125) (by decide +kernel)) (by decide +kernel)
theorem q4_126 : (.static ⟨"java/lang/StringLatin1","fillNull","([BII)V"⟩ : Cond) ∈ TW := tw_4 (List.mem_of_getElem? (i := 126) (by decide +kernel)) (by decide +kernel)
theorem q4_127 : (.code ⟨"java/lang/StringLatin1","fillNull","([BII)V"⟩ prog_25_method_48_code 3 none : Cond) ∈ TW := tw_4 (List.mem_of_getElem? (i := 127) (by decide +kernel)) (by decide +kernel)
theorem q4_128 : (.methodLink "java/lang/StringLatin1" 236 ⟨"java/util/Arrays","fill","([BIIB)V"⟩ : Cond) ∈ TW := tw_4 (List.mem_of_getElem? (i := 128) (by decide +kernel)) (by decide +kernel)
theorem q4_129 : (.static ⟨"java/util/Arrays","fill","([BIIB)V"⟩ : Cond) ∈ TW := tw_4 (List.mem_of_getElem? (i := 129) (by decide +kernel)) (by decide +kernel)
theorem q4_130 : (.code ⟨"java/util/Arrays","fill","([BIIB)V"⟩ prog_34_method_110_code 5 none : Cond) ∈ TW := tw_4 (List.mem_of_getElem? (i := 130) (by decide +kernel)) (by decide +kernel)
theorem q4_131 : (.methodLink "java/util/Arrays" 13 ⟨"java/util/Arrays","rangeCheck","(III)V"⟩ : Cond) ∈ TW := tw_4 (List.mem_of_getElem? (i := 131) (by decide +kernel)) (by decide +kernel)
theorem q4_132 : (.static ⟨"java/util/Arrays","rangeCheck","(III)V"⟩ : Cond) ∈ TW := tw_4 (List.mem_of_getElem? (i := 132) (by decide +kernel)) (by decide +kernel)
theorem q4_133 : (.code ⟨"java/util/Arrays","rangeCheck","(III)V"⟩ prog_34_method_30_code 3 none : Cond) ∈ TW := tw_4 (List.mem_of_getElem? (i := 133) (by decide +kernel)) (by decide +kernel)
theorem q4_137 : (.classLink "java/util/Arrays" 68 "java/lang/ArrayIndexOutOfBoundsException" : Cond) ∈ TW := tw_4 (List.mem_of_getElem? (i := 137) (by decide +kernel)) (by decide +kernel)
theorem q4_138 : (.instantiable "java/lang/ArrayIndexOutOfBoundsException" 6 : Cond) ∈ TW := tw_4 (List.mem_of_getElem? (i := 138) (by decide +kernel)) (by decide +kernel)
theorem q4_139 : (.castable "java/lang/ArrayIndexOutOfBoundsException" "java/lang/ArrayIndexOutOfBoundsException" : Cond) ∈ TW := tw_4 (List.mem_of_getElem? (i := 139) (by decide +kernel)) (by decide +kernel)
theorem q4_140 : (.declares ⟨"java/lang/IndexOutOfBoundsException","<init>","()V"⟩ : Cond) ∈ TW := tw_4 (List.mem_of_getElem? (i := 140) (by decide +kernel)) (by decide +kernel)
theorem q4_141 : (.declares ⟨"java/lang/IndexOutOfBoundsException","<init>","(Ljava/lang/String;)V"⟩ : Cond) ∈ TW := tw_4 (List.mem_of_getElem? (i := 141) (by decide +kernel)) (by decide +kernel)
theorem q4_142 : (.selects "java/lang/ArrayIndexOutOfBoundsException" ⟨"java/lang/Throwable","fillInStackTrace","(I)Ljava/lang/Throwable;"⟩ ⟨"java/lang/Throwable","fillInStackTrace","(I)Ljava/lang/Throwable;"⟩ : Cond) ∈ TW := tw_4 (List.mem_of_getElem? (i := 142) (by decide +kernel)) (by decide +kernel)
theorem q4_143 : (.lays "java/lang/ArrayIndexOutOfBoundsException" "java/lang/Throwable" "cause" "Ljava/lang/Throwable;" : Cond) ∈ TW := tw_4 (List.mem_of_getElem? (i := 143) (by decide +kernel)) (by decide +kernel)
theorem q4_144 : (.lays "java/lang/ArrayIndexOutOfBoundsException" "java/lang/Throwable" "stackTrace" "[Ljava/lang/StackTraceElement;" : Cond) ∈ TW := tw_4 (List.mem_of_getElem? (i := 144) (by decide +kernel)) (by decide +kernel)
theorem q4_145 : (.lays "java/lang/ArrayIndexOutOfBoundsException" "java/lang/Throwable" "suppressedExceptions" "Ljava/util/List;" : Cond) ∈ TW := tw_4 (List.mem_of_getElem? (i := 145) (by decide +kernel)) (by decide +kernel)
theorem q4_146 : (.lays "java/lang/ArrayIndexOutOfBoundsException" "java/lang/Throwable" "detailMessage" "Ljava/lang/String;" : Cond) ∈ TW := tw_4 (List.mem_of_getElem? (i := 146) (by decide +kernel)) (by decide +kernel)
theorem q4_147 : (.lays "java/lang/ArrayIndexOutOfBoundsException" "java/lang/Throwable" "backtrace" "Ljava/lang/Object;" : Cond) ∈ TW := tw_4 (List.mem_of_getElem? (i := 147) (by decide +kernel)) (by decide +kernel)
theorem q4_148 : (.methodLink "java/util/Arrays" 70 ⟨"java/lang/ArrayIndexOutOfBoundsException","<init>","(I)V"⟩ : Cond) ∈ TW := tw_4 (List.mem_of_getElem? (i := 148) (by decide +kernel)) (by decide +kernel)
theorem q4_149 : (.instanceMethod ⟨"java/lang/ArrayIndexOutOfBoundsException","<init>","(I)V"⟩ : Cond) ∈ TW := tw_4 (List.mem_of_getElem? (i := 149) (by decide +kernel)) (by decide +kernel)
theorem q4_150 : (.code ⟨"java/lang/ArrayIndexOutOfBoundsException","<init>","(I)V"⟩ prog_9_method_3_code 2 none : Cond) ∈ TW := tw_4 (List.mem_of_getElem? (i := 150) (by decide +kernel)) (by decide +kernel)
theorem q4_151 : (.classLink "java/lang/ArrayIndexOutOfBoundsException" 10 "java/lang/StringBuilder" : Cond) ∈ TW := tw_4 (List.mem_of_getElem? (i := 151) (by decide +kernel)) (by decide +kernel)
theorem q4_152 : (.methodLink "java/lang/ArrayIndexOutOfBoundsException" 12 ⟨"java/lang/StringBuilder","<init>","()V"⟩ : Cond) ∈ TW := tw_4 (List.mem_of_getElem? (i := 152) (by decide +kernel)) (by decide +kernel)
theorem q4_154 : (.methodLink "java/lang/ArrayIndexOutOfBoundsException" 15 ⟨"java/lang/StringBuilder","append","(Ljava/lang/String;)Ljava/lang/StringBuilder;"⟩ : Cond) ∈ TW := tw_4 (List.mem_of_getElem? (i := 154) (by decide +kernel)) (by decide +kernel)
theorem q4_155 : (.methodLink "java/lang/ArrayIndexOutOfBoundsException" 19 ⟨"java/lang/StringBuilder","append","(I)Ljava/lang/StringBuilder;"⟩ : Cond) ∈ TW := tw_4 (List.mem_of_getElem? (i := 155) (by decide +kernel)) (by decide +kernel)
theorem q4_156 : (.methodLink "java/lang/ArrayIndexOutOfBoundsException" 22 ⟨"java/lang/StringBuilder","toString","()Ljava/lang/String;"⟩ : Cond) ∈ TW := tw_4 (List.mem_of_getElem? (i := 156) (by decide +kernel)) (by decide +kernel)
theorem q4_157 : (.methodLink "java/lang/ArrayIndexOutOfBoundsException" 7 ⟨"java/lang/IndexOutOfBoundsException","<init>","(Ljava/lang/String;)V"⟩ : Cond) ∈ TW := tw_4 (List.mem_of_getElem? (i := 157) (by decide +kernel)) (by decide +kernel)
theorem q4_158 : (.lays "java/lang/ArrayIndexOutOfBoundsException" "java/lang/Throwable" "depth" "I" : Cond) ∈ TW := tw_4 (List.mem_of_getElem? (i := 158) (by decide +kernel)) (by decide +kernel)
theorem q4_159 : (.superclass "java/lang/ArrayIndexOutOfBoundsException" "java/lang/IndexOutOfBoundsException" : Cond) ∈ TW := tw_4 (List.mem_of_getElem? (i := 159) (by decide +kernel)) (by decide +kernel)
theorem q4_160 : (.methodLink "java/lang/AbstractStringBuilder" 137 ⟨"java/lang/StringUTF16","fillNull","([BII)V"⟩ : Cond) ∈ TW := tw_4 (List.mem_of_getElem? (i := 160) (by decide +kernel)) (by decide +kernel)
theorem q4_161 : (.static ⟨"java/lang/StringUTF16","fillNull","([BII)V"⟩ : Cond) ∈ TW := tw_4 (List.mem_of_getElem? (i := 161) (by decide +kernel)) (by decide +kernel)
theorem q4_162 : (.code ⟨"java/lang/StringUTF16","fillNull","([BII)V"⟩ prog_26_method_70_code 3 none : Cond) ∈ TW := tw_4 (List.mem_of_getElem? (i := 162) (by decide +kernel)) (by decide +kernel)
theorem q4_163 : (.methodLink "java/lang/StringUTF16" 380 ⟨"java/util/Arrays","fill","([BIIB)V"⟩ : Cond) ∈ TW := tw_4 (List.mem_of_getElem? (i := 163) (by decide +kernel)) (by decide +kernel)
theorem q4_164 : (.methodLink "Springleaf" 200 ⟨"Springleaf$Fold","tellTo","(Ljava/lang/StringBuilder;)V"⟩ : Cond) ∈ TW := tw_4 (List.mem_of_getElem? (i := 164) (by decide +kernel)) (by decide +kernel)
theorem q4_165 : (.instanceMethod ⟨"Springleaf$Fold","tellTo","(Ljava/lang/StringBuilder;)V"⟩ : Cond) ∈ TW := tw_4 (List.mem_of_getElem? (i := 165) (by decide +kernel)) (by decide +kernel)
theorem q4_166 : (.selects "Springleaf$Fold" ⟨"Springleaf$Fold","tellTo","(Ljava/lang/StringBuilder;)V"⟩ ⟨"Springleaf$Fold","tellTo","(Ljava/lang/StringBuilder;)V"⟩ : Cond) ∈ TW := tw_4 (List.mem_of_getElem? (i := 166) (by decide +kernel)) (by decide +kernel)
theorem q4_167 : (.code ⟨"Springleaf$Fold","tellTo","(Ljava/lang/StringBuilder;)V"⟩ prog_2_method_5_code 2 none : Cond) ∈ TW := tw_4 (List.mem_of_getElem? (i := 167) (by decide +kernel)) (by decide +kernel)
theorem q4_168 : (.methodLink "Springleaf$Fold" 50 ⟨"java/lang/StringBuilder","append","(C)Ljava/lang/StringBuilder;"⟩ : Cond) ∈ TW := tw_4 (List.mem_of_getElem? (i := 168) (by decide +kernel)) (by decide +kernel)
theorem q4_169 : (.instanceMethod ⟨"java/lang/StringBuilder","append","(C)Ljava/lang/StringBuilder;"⟩ : Cond) ∈ TW := tw_4 (List.mem_of_getElem? (i := 169) (by decide +kernel)) (by decide +kernel)
theorem q4_170 : (.selects "java/lang/StringBuilder" ⟨"java/lang/StringBuilder","append","(C)Ljava/lang/StringBuilder;"⟩ ⟨"java/lang/StringBuilder","append","(C)Ljava/lang/StringBuilder;"⟩ : Cond) ∈ TW := tw_4 (List.mem_of_getElem? (i := 170) (by decide +kernel)) (by decide +kernel)
theorem q4_171 : (.code ⟨"java/lang/StringBuilder","append","(C)Ljava/lang/StringBuilder;"⟩ prog_23_method_14_code 2 (some (.object "java/lang/StringBuilder")) : Cond) ∈ TW := tw_4 (List.mem_of_getElem? (i := 171) (by decide +kernel)) (by decide +kernel)
theorem q4_172 : (.methodLink "java/lang/StringBuilder" 50 ⟨"java/lang/AbstractStringBuilder","append","(C)Ljava/lang/AbstractStringBuilder;"⟩ : Cond) ∈ TW := tw_4 (List.mem_of_getElem? (i := 172) (by decide +kernel)) (by decide +kernel)
theorem q4_173 : (.instanceMethod ⟨"java/lang/AbstractStringBuilder","append","(C)Ljava/lang/AbstractStringBuilder;"⟩ : Cond) ∈ TW := tw_4 (List.mem_of_getElem? (i := 173) (by decide +kernel)) (by decide +kernel)
theorem q4_174 : (.code ⟨"java/lang/AbstractStringBuilder","append","(C)Ljava/lang/AbstractStringBuilder;"⟩ prog_7_method_31_code 2 (some (.object "java/lang/AbstractStringBuilder")) : Cond) ∈ TW := tw_4 (List.mem_of_getElem? (i := 174) (by decide +kernel)) (by decide +kernel)
theorem q4_175 : (.methodLink "java/lang/AbstractStringBuilder" 191 ⟨"java/lang/StringLatin1","canEncode","(C)Z"⟩ : Cond) ∈ TW := tw_4 (List.mem_of_getElem? (i := 175) (by decide +kernel)) (by decide +kernel)
theorem q4_176 : (.static ⟨"java/lang/StringLatin1","canEncode","(C)Z"⟩ : Cond) ∈ TW := tw_4 (List.mem_of_getElem? (i := 176) (by decide +kernel)) (by decide +kernel)
theorem q4_177 : (.code ⟨"java/lang/StringLatin1","canEncode","(C)Z"⟩ prog_25_method_3_code 1 (some .boolean) : Cond) ∈ TW := tw_4 (List.mem_of_getElem? (i := 177) (by decide +kernel)) (by decide +kernel)
theorem q4_178 : (.methodLink "java/lang/AbstractStringBuilder" 197 ⟨"java/lang/StringUTF16","putCharSB","([BII)V"⟩ : Cond) ∈ TW := tw_4 (List.mem_of_getElem? (i := 178) (by decide +kernel)) (by decide +kernel)
theorem q4_179 : (.static ⟨"java/lang/StringUTF16","putCharSB","([BII)V"⟩ : Cond) ∈ TW := tw_4 (List.mem_of_getElem? (i := 179) (by decide +kernel)) (by decide +kernel)
theorem q4_180 : (.code ⟨"java/lang/StringUTF16","putCharSB","([BII)V"⟩ prog_26_method_71_code 3 none : Cond) ∈ TW := tw_4 (List.mem_of_getElem? (i := 180) (by decide +kernel)) (by decide +kernel)
theorem q4_181 : (.methodLink "java/lang/StringUTF16" 67 ⟨"java/lang/StringUTF16","checkIndex","(I[B)V"⟩ : Cond) ∈ TW := tw_4 (List.mem_of_getElem? (i := 181) (by decide +kernel)) (by decide +kernel)
theorem q4_182 : (.static ⟨"java/lang/StringUTF16","checkIndex","(I[B)V"⟩ : Cond) ∈ TW := tw_4 (List.mem_of_getElem? (i := 182) (by decide +kernel)) (by decide +kernel)
theorem q4_183 : (.code ⟨"java/lang/StringUTF16","checkIndex","(I[B)V"⟩ prog_26_method_91_code 2 none : Cond) ∈ TW := tw_4 (List.mem_of_getElem? (i := 183) (by decide +kernel)) (by decide +kernel)
theorem q4_184 : (.methodLink "java/lang/StringUTF16" 414 ⟨"java/lang/String","checkIndex","(II)V"⟩ : Cond) ∈ TW := tw_4 (List.mem_of_getElem? (i := 184) (by decide +kernel)) (by decide +kernel)
theorem q4_185 : (.static ⟨"java/lang/String","checkIndex","(II)V"⟩ : Cond) ∈ TW := tw_4 (List.mem_of_getElem? (i := 185) (by decide +kernel)) (by decide +kernel)
theorem q4_186 : (.code ⟨"java/lang/String","checkIndex","(II)V"⟩ prog_22_method_155_code 2 none : Cond) ∈ TW := tw_4 (List.mem_of_getElem? (i := 186) (by decide +kernel)) (by decide +kernel)
theorem q4_187 : (.methodLink "java/lang/String" 1059 ⟨"jdk/internal/util/Preconditions","checkIndex","(IILjava/util/function/BiFunction;)I"⟩ : Cond) ∈ TW := tw_4 (List.mem_of_getElem? (i := 187) (by decide +kernel)) (by decide +kernel)
theorem q4_188 : (.methodLink "Springleaf$Fold" 56 ⟨"java/lang/StringBuilder","append","(I)Ljava/lang/StringBuilder;"⟩ : Cond) ∈ TW := tw_4 (List.mem_of_getElem? (i := 188) (by decide +kernel)) (by decide +kernel)
theorem q4_189 : (.methodLink "Springleaf$Fold" 59 ⟨"java/lang/Math","abs","(I)I"⟩ : Cond) ∈ TW := tw_4 (List.mem_of_getElem? (i := 189) (by decide +kernel)) (by decide +kernel)
theorem q4_191 : (.methodLink "Springleaf$Fold" 65 ⟨"java/lang/StringBuilder","append","(Ljava/lang/String;)Ljava/lang/StringBuilder;"⟩ : Cond) ∈ TW := tw_4 (List.mem_of_getElem? (i := 191) (by decide +kernel)) (by decide +kernel)
theorem q4_192 : (.methodLink "Springleaf" 177 ⟨"java/lang/StringBuilder","length","()I"⟩ : Cond) ∈ TW := tw_4 (List.mem_of_getElem? (i := 192) (by decide +kernel)) (by decide +kernel)
theorem q4_193 : (.methodLink "Springleaf" 179 ⟨"java/lang/StringBuilder","charAt","(I)C"⟩ : Cond) ∈ TW := tw_4 (List.mem_of_getElem? (i := 193) (by decide +kernel)) (by decide +kernel)
theorem q4_194 : (.instanceMethod ⟨"java/lang/StringBuilder","charAt","(I)C"⟩ : Cond) ∈ TW := tw_4 (List.mem_of_getElem? (i := 194) (by decide +kernel)) (by decide +kernel)
theorem q4_195 : (.selects "java/lang/StringBuilder" ⟨"java/lang/StringBuilder","charAt","(I)C"⟩ ⟨"java/lang/StringBuilder","charAt","(I)C"⟩ : Cond) ∈ TW := tw_4 (List.mem_of_getElem? (i := 195) (by decide +kernel)) (by decide +kernel)
theorem q4_196 : (.code ⟨"java/lang/StringBuilder","charAt","(I)C"⟩ prog_23_method_88_code 2 (some .char) : Cond) ∈ TW := tw_4 (List.mem_of_getElem? (i := 196) (by decide +kernel)) (by decide +kernel)
theorem q4_197 : (.methodLink "java/lang/StringBuilder" 329 ⟨"java/lang/AbstractStringBuilder","charAt","(I)C"⟩ : Cond) ∈ TW := tw_4 (List.mem_of_getElem? (i := 197) (by decide +kernel)) (by decide +kernel)
theorem q4_198 : (.instanceMethod ⟨"java/lang/AbstractStringBuilder","charAt","(I)C"⟩ : Cond) ∈ TW := tw_4 (List.mem_of_getElem? (i := 198) (by decide +kernel)) (by decide +kernel)
theorem q4_199 : (.code ⟨"java/lang/AbstractStringBuilder","charAt","(I)C"⟩ prog_7_method_14_code 5 (some .char) : Cond) ∈ TW := tw_4 (List.mem_of_getElem? (i := 199) (by decide +kernel)) (by decide +kernel)
theorem q4_200 : (.methodLink "java/lang/AbstractStringBuilder" 138 ⟨"java/lang/Math","min","(II)I"⟩ : Cond) ∈ TW := tw_4 (List.mem_of_getElem? (i := 200) (by decide +kernel)) (by decide +kernel)
theorem q4_201 : (.methodLink "java/lang/AbstractStringBuilder" 144 ⟨"java/lang/String","checkIndex","(II)V"⟩ : Cond) ∈ TW := tw_4 (List.mem_of_getElem? (i := 201) (by decide +kernel)) (by decide +kernel)
theorem q4_202 : (.methodLink "java/lang/AbstractStringBuilder" 148 ⟨"java/lang/StringUTF16","getChar","([BI)C"⟩ : Cond) ∈ TW := tw_4 (List.mem_of_getElem? (i := 202) (by decide +kernel)) (by decide +kernel)
theorem q4_203 : (.classLink "SpringleafLaw" 59 "SpringleafModel" : Cond) ∈ TW := tw_4 (List.mem_of_getElem? (i := 203) (by decide +kernel)) (by decide +kernel)
theorem q4_204 : (.instantiable "SpringleafModel" 25 : Cond) ∈ TW := tw_4 (List.mem_of_getElem? (i := 204) (by decide +kernel)) (by decide +kernel)
theorem q4_205 : (.methodLink "SpringleafLaw" 61 ⟨"SpringleafModel","<init>","()V"⟩ : Cond) ∈ TW := tw_4 (List.mem_of_getElem? (i := 205) (by decide +kernel)) (by decide +kernel)
theorem q4_206 : (.instanceMethod ⟨"SpringleafModel","<init>","()V"⟩ : Cond) ∈ TW := tw_4 (List.mem_of_getElem? (i := 206) (by decide +kernel)) (by decide +kernel)
theorem q4_207 : (.code ⟨"SpringleafModel","<init>","()V"⟩ prog_5_method_1_code 1 none : Cond) ∈ TW := tw_4 (List.mem_of_getElem? (i := 207) (by decide +kernel)) (by decide +kernel)
theorem q4_208 : (.methodLink "SpringleafModel" 1 ⟨"java/lang/Object","<init>","()V"⟩ : Cond) ∈ TW := tw_4 (List.mem_of_getElem? (i := 208) (by decide +kernel)) (by decide +kernel)
theorem q4_209 : (.fieldLink "SpringleafModel" 7 "SpringleafModel" "fo" "[I" : Cond) ∈ TW := tw_4 (List.mem_of_getElem? (i := 209) (by decide +kernel)) (by decide +kernel)
theorem q4_210 : (.fieldLink "SpringleafModel" 13 "SpringleafModel" "fl" "[I" : Cond) ∈ TW := tw_4 (List.mem_of_getElem? (i := 210) (by decide +kernel)) (by decide +kernel)
theorem q4_211 : (.fieldLink "SpringleafModel" 16 "SpringleafModel" "fn" "[I" : Cond) ∈ TW := tw_4 (List.mem_of_getElem? (i := 211) (by decide +kernel)) (by decide +kernel)
theorem q4_212 : (.fieldLink "SpringleafModel" 19 "SpringleafModel" "folds" "I" : Cond) ∈ TW := tw_4 (List.mem_of_getElem? (i := 212) (by decide +kernel)) (by decide +kernel)
theorem q4_213 : (.fieldLink "SpringleafModel" 23 "SpringleafModel" "pf" "[I" : Cond) ∈ TW := tw_4 (List.mem_of_getElem? (i := 213) (by decide +kernel)) (by decide +kernel)
theorem q4_214 : (.fieldLink "SpringleafModel" 26 "SpringleafModel" "pp" "[I" : Cond) ∈ TW := tw_4 (List.mem_of_getElem? (i := 214) (by decide +kernel)) (by decide +kernel)
theorem q4_215 : (.fieldLink "SpringleafModel" 29 "SpringleafModel" "pl" "[I" : Cond) ∈ TW := tw_4 (List.mem_of_getElem? (i := 215) (by decide +kernel)) (by decide +kernel)
theorem q4_216 : (.fieldLink "SpringleafModel" 32 "SpringleafModel" "pb" "[I" : Cond) ∈ TW := tw_4 (List.mem_of_getElem? (i := 216) (by decide +kernel)) (by decide +kernel)
theorem q4_217 : (.fieldLink "SpringleafModel" 35 "SpringleafModel" "pn" "[I" : Cond) ∈ TW := tw_4 (List.mem_of_getElem? (i := 217) (by decide +kernel)) (by decide +kernel)
theorem q4_218 : (.fieldLink "SpringleafModel" 38 "SpringleafModel" "pe" "[I" : Cond) ∈ TW := tw_4 (List.mem_of_getElem? (i := 218) (by decide +kernel)) (by decide +kernel)
theorem q4_219 : (.fieldLink "SpringleafModel" 78 "SpringleafModel" "parts" "I" : Cond) ∈ TW := tw_4 (List.mem_of_getElem? (i := 219) (by decide +kernel)) (by decide +kernel)
theorem q4_220 : (.fieldLink "SpringleafModel" 41 "SpringleafModel" "order" "[I" : Cond) ∈ TW := tw_4 (List.mem_of_getElem? (i := 220) (by decide +kernel)) (by decide +kernel)
theorem q4_221 : (.fieldLink "SpringleafModel" 85 "SpringleafModel" "glued" "I" : Cond) ∈ TW := tw_4 (List.mem_of_getElem? (i := 221) (by decide +kernel)) (by decide +kernel)
theorem q4_222 : (.fieldLink "SpringleafModel" 44 "SpringleafModel" "ss" "[I" : Cond) ∈ TW := tw_4 (List.mem_of_getElem? (i := 222) (by decide +kernel)) (by decide +kernel)
theorem q4_223 : (.fieldLink "SpringleafModel" 47 "SpringleafModel" "st" "[I" : Cond) ∈ TW := tw_4 (List.mem_of_getElem? (i := 223) (by decide +kernel)) (by decide +kernel)
theorem q4_224 : (.fieldLink "SpringleafModel" 50 "SpringleafModel" "sh" "[I" : Cond) ∈ TW := tw_4 (List.mem_of_getElem? (i := 224) (by decide +kernel)) (by decide +kernel)
theorem q4_225 : (.fieldLink "SpringleafModel" 53 "SpringleafModel" "su" "[I" : Cond) ∈ TW := tw_4 (List.mem_of_getElem? (i := 225) (by decide +kernel)) (by decide +kernel)
theorem q4_226 : (.fieldLink "SpringleafModel" 128 "SpringleafModel" "shelves" "I" : Cond) ∈ TW := tw_4 (List.mem_of_getElem? (i := 226) (by decide +kernel)) (by decide +kernel)
theorem q4_227 : (.fieldLink "SpringleafModel" 56 "SpringleafModel" "used" "[I" : Cond) ∈ TW := tw_4 (List.mem_of_getElem? (i := 227) (by decide +kernel)) (by decide +kernel)
theorem q4_228 : (.fieldLink "SpringleafModel" 138 "SpringleafModel" "sheets" "I" : Cond) ∈ TW := tw_4 (List.mem_of_getElem? (i := 228) (by decide +kernel)) (by decide +kernel)
theorem q4_229 : (.fieldLink "SpringleafModel" 59 "SpringleafModel" "ps" "[I" : Cond) ∈ TW := tw_4 (List.mem_of_getElem? (i := 229) (by decide +kernel)) (by decide +kernel)
theorem q4_230 : (.fieldLink "SpringleafModel" 62 "SpringleafModel" "px" "[I" : Cond) ∈ TW := tw_4 (List.mem_of_getElem? (i := 230) (by decide +kernel)) (by decide +kernel)
theorem q4_231 : (.fieldLink "SpringleafModel" 65 "SpringleafModel" "py" "[I" : Cond) ∈ TW := tw_4 (List.mem_of_getElem? (i := 231) (by decide +kernel)) (by decide +kernel)
theorem q4_232 : (.fieldLink "SpringleafModel" 68 "SpringleafModel" "way" "[I" : Cond) ∈ TW := tw_4 (List.mem_of_getElem? (i := 232) (by decide +kernel)) (by decide +kernel)
theorem q4_233 : (.fieldLink "SpringleafModel" 71 "SpringleafModel" "thrown" "I" : Cond) ∈ TW := tw_4 (List.mem_of_getElem? (i := 233) (by decide +kernel)) (by decide +kernel)
theorem q4_234 : (.laysFinal "SpringleafModel" "SpringleafModel" "fo" "[I" : Cond) ∈ TW := tw_4 (List.mem_of_getElem? (i := 234) (by decide +kernel)) (by decide +kernel)
theorem q4_235 : (.soleField "SpringleafModel" "fo" : Cond) ∈ TW := tw_4 (List.mem_of_getElem? (i := 235) (by decide +kernel)) (by decide +kernel)
theorem q4_236 : (.laysFinal "SpringleafModel" "SpringleafModel" "fl" "[I" : Cond) ∈ TW := tw_4 (List.mem_of_getElem? (i := 236) (by decide +kernel)) (by decide +kernel)
theorem q4_237 : (.soleField "SpringleafModel" "fl" : Cond) ∈ TW := tw_4 (List.mem_of_getElem? (i := 237) (by decide +kernel)) (by decide +kernel)
theorem q4_238 : (.laysFinal "SpringleafModel" "SpringleafModel" "fn" "[I" : Cond) ∈ TW := tw_4 (List.mem_of_getElem? (i := 238) (by decide +kernel)) (by decide +kernel)
theorem q4_239 : (.soleField "SpringleafModel" "fn" : Cond) ∈ TW := tw_4 (List.mem_of_getElem? (i := 239) (by decide +kernel)) (by decide +kernel)
theorem q5_0 : (.lays "SpringleafModel" "SpringleafModel" "folds" "I" : Cond) ∈ TW := tw_5 (List.mem_of_getElem? (i := 0) (by decide +kernel)) (by decide +kernel)
theorem q5_1 : (.soleField "SpringleafModel" "folds" : Cond) ∈ TW := tw_5 (List.mem_of_getElem? (i := 1) (by decide +kernel)) (by decide +kernel)
theorem q5_2 : (.laysFinal "SpringleafModel" "SpringleafModel" "pf" "[I" : Cond) ∈ TW := tw_5 (List.mem_of_getElem? (i := 2) (by decide +kernel)) (by decide +kernel)
theorem q5_3 : (.soleField "SpringleafModel" "pf" : Cond) ∈ TW := tw_5 (List.mem_of_getElem? (i := 3) (by decide +kernel)) (by decide +kernel)
theorem q5_4 : (.laysFinal "SpringleafModel" "SpringleafModel" "pp" "[I" : Cond) ∈ TW := tw_5 (List.mem_of_getElem? (i := 4) (by decide +kernel)) (by decide +kernel)
theorem q5_5 : (.soleField "SpringleafModel" "pp" : Cond) ∈ TW := tw_5 (List.mem_of_getElem? (i := 5) (by decide +kernel)) (by decide +kernel)
theorem q5_6 : (.laysFinal "SpringleafModel" "SpringleafModel" "pl" "[I" : Cond) ∈ TW := tw_5 (List.mem_of_getElem? (i := 6) (by decide +kernel)) (by decide +kernel)
theorem q5_7 : (.soleField "SpringleafModel" "pl" : Cond) ∈ TW := tw_5 (List.mem_of_getElem? (i := 7) (by decide +kernel)) (by decide +kernel)
theorem q5_8 : (.laysFinal "SpringleafModel" "SpringleafModel" "pb" "[I" : Cond) ∈ TW := tw_5 (List.mem_of_getElem? (i := 8) (by decide +kernel)) (by decide +kernel)
theorem q5_9 : (.soleField "SpringleafModel" "pb" : Cond) ∈ TW := tw_5 (List.mem_of_getElem? (i := 9) (by decide +kernel)) (by decide +kernel)
theorem q5_10 : (.laysFinal "SpringleafModel" "SpringleafModel" "pn" "[I" : Cond) ∈ TW := tw_5 (List.mem_of_getElem? (i := 10) (by decide +kernel)) (by decide +kernel)
theorem q5_11 : (.soleField "SpringleafModel" "pn" : Cond) ∈ TW := tw_5 (List.mem_of_getElem? (i := 11) (by decide +kernel)) (by decide +kernel)
theorem q5_12 : (.laysFinal "SpringleafModel" "SpringleafModel" "pe" "[I" : Cond) ∈ TW := tw_5 (List.mem_of_getElem? (i := 12) (by decide +kernel)) (by decide +kernel)
theorem q5_13 : (.soleField "SpringleafModel" "pe" : Cond) ∈ TW := tw_5 (List.mem_of_getElem? (i := 13) (by decide +kernel)) (by decide +kernel)
theorem q5_14 : (.lays "SpringleafModel" "SpringleafModel" "parts" "I" : Cond) ∈ TW := tw_5 (List.mem_of_getElem? (i := 14) (by decide +kernel)) (by decide +kernel)
theorem q5_15 : (.soleField "SpringleafModel" "parts" : Cond) ∈ TW := tw_5 (List.mem_of_getElem? (i := 15) (by decide +kernel)) (by decide +kernel)
theorem q5_16 : (.laysFinal "SpringleafModel" "SpringleafModel" "order" "[I" : Cond) ∈ TW := tw_5 (List.mem_of_getElem? (i := 16) (by decide +kernel)) (by decide +kernel)
theorem q5_17 : (.soleField "SpringleafModel" "order" : Cond) ∈ TW := tw_5 (List.mem_of_getElem? (i := 17) (by decide +kernel)) (by decide +kernel)
theorem q5_18 : (.lays "SpringleafModel" "SpringleafModel" "glued" "I" : Cond) ∈ TW := tw_5 (List.mem_of_getElem? (i := 18) (by decide +kernel)) (by decide +kernel)
theorem q5_19 : (.soleField "SpringleafModel" "glued" : Cond) ∈ TW := tw_5 (List.mem_of_getElem? (i := 19) (by decide +kernel)) (by decide +kernel)
theorem q5_20 : (.laysFinal "SpringleafModel" "SpringleafModel" "ss" "[I" : Cond) ∈ TW := tw_5 (List.mem_of_getElem? (i := 20) (by decide +kernel)) (by decide +kernel)
theorem q5_21 : (.soleField "SpringleafModel" "ss" : Cond) ∈ TW := tw_5 (List.mem_of_getElem? (i := 21) (by decide +kernel)) (by decide +kernel)
theorem q5_22 : (.laysFinal "SpringleafModel" "SpringleafModel" "st" "[I" : Cond) ∈ TW := tw_5 (List.mem_of_getElem? (i := 22) (by decide +kernel)) (by decide +kernel)
theorem q5_23 : (.soleField "SpringleafModel" "st" : Cond) ∈ TW := tw_5 (List.mem_of_getElem? (i := 23) (by decide +kernel)) (by decide +kernel)
theorem q5_24 : (.laysFinal "SpringleafModel" "SpringleafModel" "sh" "[I" : Cond) ∈ TW := tw_5 (List.mem_of_getElem? (i := 24) (by decide +kernel)) (by decide +kernel)
theorem q5_25 : (.soleField "SpringleafModel" "sh" : Cond) ∈ TW := tw_5 (List.mem_of_getElem? (i := 25) (by decide +kernel)) (by decide +kernel)
theorem q5_26 : (.laysFinal "SpringleafModel" "SpringleafModel" "su" "[I" : Cond) ∈ TW := tw_5 (List.mem_of_getElem? (i := 26) (by decide +kernel)) (by decide +kernel)
theorem q5_27 : (.soleField "SpringleafModel" "su" : Cond) ∈ TW := tw_5 (List.mem_of_getElem? (i := 27) (by decide +kernel)) (by decide +kernel)
theorem q5_28 : (.lays "SpringleafModel" "SpringleafModel" "shelves" "I" : Cond) ∈ TW := tw_5 (List.mem_of_getElem? (i := 28) (by decide +kernel)) (by decide +kernel)
theorem q5_29 : (.soleField "SpringleafModel" "shelves" : Cond) ∈ TW := tw_5 (List.mem_of_getElem? (i := 29) (by decide +kernel)) (by decide +kernel)
theorem q5_30 : (.laysFinal "SpringleafModel" "SpringleafModel" "used" "[I" : Cond) ∈ TW := tw_5 (List.mem_of_getElem? (i := 30) (by decide +kernel)) (by decide +kernel)
theorem q5_31 : (.soleField "SpringleafModel" "used" : Cond) ∈ TW := tw_5 (List.mem_of_getElem? (i := 31) (by decide +kernel)) (by decide +kernel)
theorem q5_32 : (.lays "SpringleafModel" "SpringleafModel" "sheets" "I" : Cond) ∈ TW := tw_5 (List.mem_of_getElem? (i := 32) (by decide +kernel)) (by decide +kernel)
theorem q5_33 : (.soleField "SpringleafModel" "sheets" : Cond) ∈ TW := tw_5 (List.mem_of_getElem? (i := 33) (by decide +kernel)) (by decide +kernel)
theorem q5_34 : (.laysFinal "SpringleafModel" "SpringleafModel" "ps" "[I" : Cond) ∈ TW := tw_5 (List.mem_of_getElem? (i := 34) (by decide +kernel)) (by decide +kernel)
theorem q5_35 : (.soleField "SpringleafModel" "ps" : Cond) ∈ TW := tw_5 (List.mem_of_getElem? (i := 35) (by decide +kernel)) (by decide +kernel)
theorem q5_36 : (.laysFinal "SpringleafModel" "SpringleafModel" "px" "[I" : Cond) ∈ TW := tw_5 (List.mem_of_getElem? (i := 36) (by decide +kernel)) (by decide +kernel)
theorem q5_37 : (.soleField "SpringleafModel" "px" : Cond) ∈ TW := tw_5 (List.mem_of_getElem? (i := 37) (by decide +kernel)) (by decide +kernel)
theorem q5_38 : (.laysFinal "SpringleafModel" "SpringleafModel" "py" "[I" : Cond) ∈ TW := tw_5 (List.mem_of_getElem? (i := 38) (by decide +kernel)) (by decide +kernel)
theorem q5_39 : (.soleField "SpringleafModel" "py" : Cond) ∈ TW := tw_5 (List.mem_of_getElem? (i := 39) (by decide +kernel)) (by decide +kernel)
theorem q5_40 : (.laysFinal "SpringleafModel" "SpringleafModel" "way" "[I" : Cond) ∈ TW := tw_5 (List.mem_of_getElem? (i := 40) (by decide +kernel)) (by decide +kernel)
theorem q5_41 : (.soleField "SpringleafModel" "way" : Cond) ∈ TW := tw_5 (List.mem_of_getElem? (i := 41) (by decide +kernel)) (by decide +kernel)
theorem q5_42 : (.lays "SpringleafModel" "SpringleafModel" "thrown" "I" : Cond) ∈ TW := tw_5 (List.mem_of_getElem? (i := 42) (by decide +kernel)) (by decide +kernel)
theorem q5_43 : (.soleField "SpringleafModel" "thrown" : Cond) ∈ TW := tw_5 (List.mem_of_getElem? (i := 43) (by decide +kernel)) (by decide +kernel)
theorem q5_44 : (.superclass "SpringleafModel" "java/lang/Object" : Cond) ∈ TW := tw_5 (List.mem_of_getElem? (i := 44) (by decide +kernel)) (by decide +kernel)
theorem q5_45 : (.arrayClass .int : Cond) ∈ TW := tw_5 (List.mem_of_getElem? (i := 45) (by decide +kernel)) (by decide +kernel)
theorem q5_46 : (.methodLink "SpringleafLaw" 68 ⟨"SpringleafModel","thrown","()I"⟩ : Cond) ∈ TW := tw_5 (List.mem_of_getElem? (i := 46) (by decide +kernel)) (by decide +kernel)
theorem q5_47 : (.instanceMethod ⟨"SpringleafModel","thrown","()I"⟩ : Cond) ∈ TW := tw_5 (List.mem_of_getElem? (i := 47) (by decide +kernel)) (by decide +kernel)
theorem q5_48 : (.selects "SpringleafModel" ⟨"SpringleafModel","thrown","()I"⟩ ⟨"SpringleafModel","thrown","()I"⟩ : Cond) ∈ TW := tw_5 (List.mem_of_getElem? (i := 48) (by decide +kernel)) (by decide +kernel)
theorem q5_49 : (.code ⟨"SpringleafModel","thrown","()I"⟩ prog_5_method_2_code 1 (some .int) : Cond) ∈ TW := tw_5 (List.mem_of_getElem? (i := 49) (by decide +kernel)) (by decide +kernel)
theorem q5_50 : (.methodLink "SpringleafLaw" 67 ⟨"SpringleafModel","fold","(III)I"⟩ : Cond) ∈ TW := tw_5 (List.mem_of_getElem? (i := 50) (by decide +kernel)) (by decide +kernel)
theorem q5_51 : (.instanceMethod ⟨"SpringleafModel","fold","(III)I"⟩ : Cond) ∈ TW := tw_5 (List.mem_of_getElem? (i := 51) (by decide +kernel)) (by decide +kernel)
theorem q5_52 : (.selects "SpringleafModel" ⟨"SpringleafModel","fold","(III)I"⟩ ⟨"SpringleafModel","fold","(III)I"⟩ : Cond) ∈ TW := tw_5 (List.mem_of_getElem? (i := 52) (by decide +kernel)) (by decide +kernel)
theorem q5_53 : (.code ⟨"SpringleafModel","fold","(III)I"⟩ prog_5_method_10_code 5 (some .int) : Cond) ∈ TW := tw_5 (List.mem_of_getElem? (i := 53) (by decide +kernel)) (by decide +kernel)
theorem q5_54 : (.methodLink "SpringleafModel" 74 ⟨"SpringleafModel","in","(III)Z"⟩ : Cond) ∈ TW := tw_5 (List.mem_of_getElem? (i := 54) (by decide +kernel)) (by decide +kernel)
theorem q5_55 : (.privateMethod ⟨"SpringleafModel","in","(III)Z"⟩ : Cond) ∈ TW := tw_5 (List.mem_of_getElem? (i := 55) (by decide +kernel)) (by decide +kernel)
theorem q5_56 : (.instanceMethod ⟨"SpringleafModel","in","(III)Z"⟩ : Cond) ∈ TW := tw_5 (List.mem_of_getElem? (i := 56) (by decide +kernel)) (by decide +kernel)
theorem q5_57 : (.code ⟨"SpringleafModel","in","(III)Z"⟩ prog_5_method_4_code 4 (some .boolean) : Cond) ∈ TW := tw_5 (List.mem_of_getElem? (i := 57) (by decide +kernel)) (by decide +kernel)
theorem q5_58 : (.methodLink "SpringleafModel" 92 ⟨"SpringleafModel","isFold","(I)Z"⟩ : Cond) ∈ TW := tw_5 (List.mem_of_getElem? (i := 58) (by decide +kernel)) (by decide +kernel)
theorem q5_59 : (.privateMethod ⟨"SpringleafModel","isFold","(I)Z"⟩ : Cond) ∈ TW := tw_5 (List.mem_of_getElem? (i := 59) (by decide +kernel)) (by decide +kernel)
theorem q5_60 : (.instanceMethod ⟨"SpringleafModel","isFold","(I)Z"⟩ : Cond) ∈ TW := tw_5 (List.mem_of_getElem? (i := 60) (by decide +kernel)) (by decide +kernel)
theorem q5_61 : (.code ⟨"SpringleafModel","isFold","(I)Z"⟩ prog_5_method_5_code 2 (some .boolean) : Cond) ∈ TW := tw_5 (List.mem_of_getElem? (i := 61) (by decide +kernel)) (by decide +kernel)
theorem q5_62 : (.methodLink "SpringleafModel" 96 ⟨"SpringleafModel","bound","()Z"⟩ : Cond) ∈ TW := tw_5 (List.mem_of_getElem? (i := 62) (by decide +kernel)) (by decide +kernel)
theorem q5_63 : (.privateMethod ⟨"SpringleafModel","bound","()Z"⟩ : Cond) ∈ TW := tw_5 (List.mem_of_getElem? (i := 63) (by decide +kernel)) (by decide +kernel)
theorem q5_64 : (.instanceMethod ⟨"SpringleafModel","bound","()Z"⟩ : Cond) ∈ TW := tw_5 (List.mem_of_getElem? (i := 64) (by decide +kernel)) (by decide +kernel)
theorem q5_65 : (.code ⟨"SpringleafModel","bound","()Z"⟩ prog_5_method_9_code 1 (some .boolean) : Cond) ∈ TW := tw_5 (List.mem_of_getElem? (i := 65) (by decide +kernel)) (by decide +kernel)
theorem q5_66 : (.methodLink "SpringleafModel" 88 ⟨"SpringleafModel","tests","()I"⟩ : Cond) ∈ TW := tw_5 (List.mem_of_getElem? (i := 66) (by decide +kernel)) (by decide +kernel)
theorem q5_67 : (.privateMethod ⟨"SpringleafModel","tests","()I"⟩ : Cond) ∈ TW := tw_5 (List.mem_of_getElem? (i := 67) (by decide +kernel)) (by decide +kernel)
theorem q5_68 : (.instanceMethod ⟨"SpringleafModel","tests","()I"⟩ : Cond) ∈ TW := tw_5 (List.mem_of_getElem? (i := 68) (by decide +kernel)) (by decide +kernel)
theorem q5_69 : (.code ⟨"SpringleafModel","tests","()I"⟩ prog_5_method_22_code 3 (some .int) : Cond) ∈ TW := tw_5 (List.mem_of_getElem? (i := 69) (by decide +kernel)) (by decide +kernel)
theorem q5_70 : (.methodLink "SpringleafModel" 125 ⟨"SpringleafModel","meets","(III)Z"⟩ : Cond) ∈ TW := tw_5 (List.mem_of_getElem? (i := 70) (by decide +kernel)) (by decide +kernel)
theorem q5_71 : (.privateMethod ⟨"SpringleafModel","meets","(III)Z"⟩ : Cond) ∈ TW := tw_5 (List.mem_of_getElem? (i := 71) (by decide +kernel)) (by decide +kernel)
theorem q5_72 : (.instanceMethod ⟨"SpringleafModel","meets","(III)Z"⟩ : Cond) ∈ TW := tw_5 (List.mem_of_getElem? (i := 72) (by decide +kernel)) (by decide +kernel)
theorem q5_73 : (.code ⟨"SpringleafModel","meets","(III)Z"⟩ prog_5_method_19_code 6 (some .boolean) : Cond) ∈ TW := tw_5 (List.mem_of_getElem? (i := 73) (by decide +kernel)) (by decide +kernel)
theorem q5_74 : (.methodLink "SpringleafModel" 109 ⟨"SpringleafModel","rises","(II)I"⟩ : Cond) ∈ TW := tw_5 (List.mem_of_getElem? (i := 74) (by decide +kernel)) (by decide +kernel)
theorem q5_75 : (.privateMethod ⟨"SpringleafModel","rises","(II)I"⟩ : Cond) ∈ TW := tw_5 (List.mem_of_getElem? (i := 75) (by decide +kernel)) (by decide +kernel)
theorem q5_76 : (.instanceMethod ⟨"SpringleafModel","rises","(II)I"⟩ : Cond) ∈ TW := tw_5 (List.mem_of_getElem? (i := 76) (by decide +kernel)) (by decide +kernel)
theorem q5_77 : (.code ⟨"SpringleafModel","rises","(II)I"⟩ prog_5_method_14_code 4 (some .int) : Cond) ∈ TW := tw_5 (List.mem_of_getElem? (i := 77) (by decide +kernel)) (by decide +kernel)
theorem q5_78 : (.methodLink "SpringleafModel" 103 ⟨"SpringleafModel","angleOf","(II)I"⟩ : Cond) ∈ TW := tw_5 (List.mem_of_getElem? (i := 78) (by decide +kernel)) (by decide +kernel)
theorem q5_79 : (.privateMethod ⟨"SpringleafModel","angleOf","(II)I"⟩ : Cond) ∈ TW := tw_5 (List.mem_of_getElem? (i := 79) (by decide +kernel)) (by decide +kernel)
theorem q5_80 : (.instanceMethod ⟨"SpringleafModel","angleOf","(II)I"⟩ : Cond) ∈ TW := tw_5 (List.mem_of_getElem? (i := 80) (by decide +kernel)) (by decide +kernel)
theorem q5_81 : (.code ⟨"SpringleafModel","angleOf","(II)I"⟩ prog_5_method_8_code 6 (some .int) : Cond) ∈ TW := tw_5 (List.mem_of_getElem? (i := 81) (by decide +kernel)) (by decide +kernel)
theorem q5_82 : (.methodLink "SpringleafModel" 81 ⟨"SpringleafModel","down","(II)I"⟩ : Cond) ∈ TW := tw_5 (List.mem_of_getElem? (i := 82) (by decide +kernel)) (by decide +kernel)
theorem q5_83 : (.privateMethod ⟨"SpringleafModel","down","(II)I"⟩ : Cond) ∈ TW := tw_5 (List.mem_of_getElem? (i := 83) (by decide +kernel)) (by decide +kernel)
theorem q5_84 : (.instanceMethod ⟨"SpringleafModel","down","(II)I"⟩ : Cond) ∈ TW := tw_5 (List.mem_of_getElem? (i := 84) (by decide +kernel)) (by decide +kernel)
theorem q5_85 : (.code ⟨"SpringleafModel","down","(II)I"⟩ prog_5_method_7_code 3 (some .int) : Cond) ∈ TW := tw_5 (List.mem_of_getElem? (i := 85) (by decide +kernel)) (by decide +kernel)
theorem q5_86 : (.methodLink "SpringleafModel" 112 ⟨"SpringleafModel","share","(II)Z"⟩ : Cond) ∈ TW := tw_5 (List.mem_of_getElem? (i := 86) (by decide +kernel)) (by decide +kernel)
theorem q5_87 : (.privateMethod ⟨"SpringleafModel","share","(II)Z"⟩ : Cond) ∈ TW := tw_5 (List.mem_of_getElem? (i := 87) (by decide +kernel)) (by decide +kernel)
theorem q5_88 : (.instanceMethod ⟨"SpringleafModel","share","(II)Z"⟩ : Cond) ∈ TW := tw_5 (List.mem_of_getElem? (i := 88) (by decide +kernel)) (by decide +kernel)
theorem q5_89 : (.code ⟨"SpringleafModel","share","(II)Z"⟩ prog_5_method_18_code 3 (some .boolean) : Cond) ∈ TW := tw_5 (List.mem_of_getElem? (i := 89) (by decide +kernel)) (by decide +kernel)
theorem q5_90 : (.methodLink "SpringleafModel" 116 ⟨"SpringleafModel","low","(II)I"⟩ : Cond) ∈ TW := tw_5 (List.mem_of_getElem? (i := 90) (by decide +kernel)) (by decide +kernel)
theorem q5_91 : (.privateMethod ⟨"SpringleafModel","low","(II)I"⟩ : Cond) ∈ TW := tw_5 (List.mem_of_getElem? (i := 91) (by decide +kernel)) (by decide +kernel)
theorem q5_92 : (.instanceMethod ⟨"SpringleafModel","low","(II)I"⟩ : Cond) ∈ TW := tw_5 (List.mem_of_getElem? (i := 92) (by decide +kernel)) (by decide +kernel)
theorem q5_93 : (.code ⟨"SpringleafModel","low","(II)I"⟩ prog_5_method_16_code 4 (some .int) : Cond) ∈ TW := tw_5 (List.mem_of_getElem? (i := 93) (by decide +kernel)) (by decide +kernel)
theorem q5_94 : (.methodLink "SpringleafModel" 106 ⟨"SpringleafModel","reach","(II)I"⟩ : Cond) ∈ TW := tw_5 (List.mem_of_getElem? (i := 94) (by decide +kernel)) (by decide +kernel)
theorem q5_95 : (.privateMethod ⟨"SpringleafModel","reach","(II)I"⟩ : Cond) ∈ TW := tw_5 (List.mem_of_getElem? (i := 95) (by decide +kernel)) (by decide +kernel)
theorem q5_96 : (.instanceMethod ⟨"SpringleafModel","reach","(II)I"⟩ : Cond) ∈ TW := tw_5 (List.mem_of_getElem? (i := 96) (by decide +kernel)) (by decide +kernel)
theorem q5_97 : (.code ⟨"SpringleafModel","reach","(II)I"⟩ prog_5_method_15_code 3 (some .int) : Cond) ∈ TW := tw_5 (List.mem_of_getElem? (i := 97) (by decide +kernel)) (by decide +kernel)
theorem q5_98 : (.methodLink "SpringleafModel" 119 ⟨"SpringleafModel","high","(II)I"⟩ : Cond) ∈ TW := tw_5 (List.mem_of_getElem? (i := 98) (by decide +kernel)) (by decide +kernel)
theorem q5_99 : (.privateMethod ⟨"SpringleafModel","high","(II)I"⟩ : Cond) ∈ TW := tw_5 (List.mem_of_getElem? (i := 99) (by decide +kernel)) (by decide +kernel)
theorem q5_100 : (.instanceMethod ⟨"SpringleafModel","high","(II)I"⟩ : Cond) ∈ TW := tw_5 (List.mem_of_getElem? (i := 100) (by decide +kernel)) (by decide +kernel)
theorem q5_101 : (.code ⟨"SpringleafModel","high","(II)I"⟩ prog_5_method_17_code 4 (some .int) : Cond) ∈ TW := tw_5 (List.mem_of_getElem? (i := 101) (by decide +kernel)) (by decide +kernel)
theorem q5_102 : (.methodLink "SpringleafModel" 100 ⟨"SpringleafModel","holds","(I)Z"⟩ : Cond) ∈ TW := tw_5 (List.mem_of_getElem? (i := 102) (by decide +kernel)) (by decide +kernel)
theorem q5_103 : (.privateMethod ⟨"SpringleafModel","holds","(I)Z"⟩ : Cond) ∈ TW := tw_5 (List.mem_of_getElem? (i := 103) (by decide +kernel)) (by decide +kernel)
theorem q5_104 : (.instanceMethod ⟨"SpringleafModel","holds","(I)Z"⟩ : Cond) ∈ TW := tw_5 (List.mem_of_getElem? (i := 104) (by decide +kernel)) (by decide +kernel)
theorem q5_105 : (.code ⟨"SpringleafModel","holds","(I)Z"⟩ prog_5_method_3_code 2 (some .boolean) : Cond) ∈ TW := tw_5 (List.mem_of_getElem? (i := 105) (by decide +kernel)) (by decide +kernel)
theorem q5_106 : (.methodLink "SpringleafLaw" 74 ⟨"SpringleafModel","part","(IIIIIZ)I"⟩ : Cond) ∈ TW := tw_5 (List.mem_of_getElem? (i := 106) (by decide +kernel)) (by decide +kernel)
theorem q5_107 : (.instanceMethod ⟨"SpringleafModel","part","(IIIIIZ)I"⟩ : Cond) ∈ TW := tw_5 (List.mem_of_getElem? (i := 107) (by decide +kernel)) (by decide +kernel)
theorem q5_108 : (.selects "SpringleafModel" ⟨"SpringleafModel","part","(IIIIIZ)I"⟩ ⟨"SpringleafModel","part","(IIIIIZ)I"⟩ : Cond) ∈ TW := tw_5 (List.mem_of_getElem? (i := 108) (by decide +kernel)) (by decide +kernel)
theorem q5_109 : (.code ⟨"SpringleafModel","part","(IIIIIZ)I"⟩ prog_5_method_11_code 8 (some .int) : Cond) ∈ TW := tw_5 (List.mem_of_getElem? (i := 109) (by decide +kernel)) (by decide +kernel)
theorem q5_110 : (.methodLink "SpringleafLaw" 78 ⟨"SpringleafModel","angle","(II)I"⟩ : Cond) ∈ TW := tw_5 (List.mem_of_getElem? (i := 110) (by decide +kernel)) (by decide +kernel)
theorem q5_111 : (.instanceMethod ⟨"SpringleafModel","angle","(II)I"⟩ : Cond) ∈ TW := tw_5 (List.mem_of_getElem? (i := 111) (by decide +kernel)) (by decide +kernel)
theorem q5_112 : (.selects "SpringleafModel" ⟨"SpringleafModel","angle","(II)I"⟩ ⟨"SpringleafModel","angle","(II)I"⟩ : Cond) ∈ TW := tw_5 (List.mem_of_getElem? (i := 112) (by decide +kernel)) (by decide +kernel)
theorem q5_113 : (.code ⟨"SpringleafModel","angle","(II)I"⟩ prog_5_method_12_code 3 (some .int) : Cond) ∈ TW := tw_5 (List.mem_of_getElem? (i := 113) (by decide +kernel)) (by decide +kernel)
theorem q5_114 : (.methodLink "SpringleafLaw" 81 ⟨"SpringleafModel","angleAnew","(II)I"⟩ : Cond) ∈ TW := tw_5 (List.mem_of_getElem? (i := 114) (by decide +kernel)) (by decide +kernel)
theorem q5_115 : (.instanceMethod ⟨"SpringleafModel","angleAnew","(II)I"⟩ : Cond) ∈ TW := tw_5 (List.mem_of_getElem? (i := 115) (by decide +kernel)) (by decide +kernel)
theorem q5_116 : (.selects "SpringleafModel" ⟨"SpringleafModel","angleAnew","(II)I"⟩ ⟨"SpringleafModel","angleAnew","(II)I"⟩ : Cond) ∈ TW := tw_5 (List.mem_of_getElem? (i := 116) (by decide +kernel)) (by decide +kernel)
theorem q5_117 : (.code ⟨"SpringleafModel","angleAnew","(II)I"⟩ prog_5_method_13_code 3 (some .int) : Cond) ∈ TW := tw_5 (List.mem_of_getElem? (i := 117) (by decide +kernel)) (by decide +kernel)
theorem q5_118 : (.methodLink "SpringleafLaw" 84 ⟨"SpringleafModel","where","(III)I"⟩ : Cond) ∈ TW := tw_5 (List.mem_of_getElem? (i := 118) (by decide +kernel)) (by decide +kernel)
theorem q5_119 : (.instanceMethod ⟨"SpringleafModel","where","(III)I"⟩ : Cond) ∈ TW := tw_5 (List.mem_of_getElem? (i := 119) (by decide +kernel)) (by decide +kernel)
theorem q5_120 : (.selects "SpringleafModel" ⟨"SpringleafModel","where","(III)I"⟩ ⟨"SpringleafModel","where","(III)I"⟩ : Cond) ∈ TW := tw_5 (List.mem_of_getElem? (i := 120) (by decide +kernel)) (by decide +kernel)
theorem q5_121 : (.code ⟨"SpringleafModel","where","(III)I"⟩ prog_5_method_20_code 4 (some .int) : Cond) ∈ TW := tw_5 (List.mem_of_getElem? (i := 121) (by decide +kernel)) (by decide +kernel)
theorem q5_122 : (.methodLink "SpringleafModel" 122 ⟨"SpringleafModel","isPart","(I)Z"⟩ : Cond) ∈ TW := tw_5 (List.mem_of_getElem? (i := 122) (by decide +kernel)) (by decide +kernel)
theorem q5_123 : (.privateMethod ⟨"SpringleafModel","isPart","(I)Z"⟩ : Cond) ∈ TW := tw_5 (List.mem_of_getElem? (i := 123) (by decide +kernel)) (by decide +kernel)
theorem q5_124 : (.instanceMethod ⟨"SpringleafModel","isPart","(I)Z"⟩ : Cond) ∈ TW := tw_5 (List.mem_of_getElem? (i := 124) (by decide +kernel)) (by decide +kernel)
theorem q5_125 : (.code ⟨"SpringleafModel","isPart","(I)Z"⟩ prog_5_method_6_code 2 (some .boolean) : Cond) ∈ TW := tw_5 (List.mem_of_getElem? (i := 125) (by decide +kernel)) (by decide +kernel)
theorem q5_126 : (.methodLink "SpringleafLaw" 87 ⟨"SpringleafModel","meet","(III)Z"⟩ : Cond) ∈ TW := tw_5 (List.mem_of_getElem? (i := 126) (by decide +kernel)) (by decide +kernel)
theorem q5_127 : (.instanceMethod ⟨"SpringleafModel","meet","(III)Z"⟩ : Cond) ∈ TW := tw_5 (List.mem_of_getElem? (i := 127) (by decide +kernel)) (by decide +kernel)
theorem q5_128 : (.selects "SpringleafModel" ⟨"SpringleafModel","meet","(III)Z"⟩ ⟨"SpringleafModel","meet","(III)Z"⟩ : Cond) ∈ TW := tw_5 (List.mem_of_getElem? (i := 128) (by decide +kernel)) (by decide +kernel)
theorem q5_129 : (.code ⟨"SpringleafModel","meet","(III)Z"⟩ prog_5_method_21_code 4 (some .boolean) : Cond) ∈ TW := tw_5 (List.mem_of_getElem? (i := 129) (by decide +kernel)) (by decide +kernel)
theorem q5_130 : (.methodLink "SpringleafLaw" 91 ⟨"SpringleafModel","test","()I"⟩ : Cond) ∈ TW := tw_5 (List.mem_of_getElem? (i := 130) (by decide +kernel)) (by decide +kernel)
theorem q5_131 : (.instanceMethod ⟨"SpringleafModel","test","()I"⟩ : Cond) ∈ TW := tw_5 (List.mem_of_getElem? (i := 131) (by decide +kernel)) (by decide +kernel)
theorem q5_132 : (.selects "SpringleafModel" ⟨"SpringleafModel","test","()I"⟩ ⟨"SpringleafModel","test","()I"⟩ : Cond) ∈ TW := tw_5 (List.mem_of_getElem? (i := 132) (by decide +kernel)) (by decide +kernel)
theorem q5_133 : (.code ⟨"SpringleafModel","test","()I"⟩ prog_5_method_23_code 1 (some .int) : Cond) ∈ TW := tw_5 (List.mem_of_getElem? (i := 133) (by decide +kernel)) (by decide +kernel)
theorem q5_134 : (.methodLink "SpringleafLaw" 95 ⟨"SpringleafModel","sheets","()I"⟩ : Cond) ∈ TW := tw_5 (List.mem_of_getElem? (i := 134) (by decide +kernel)) (by decide +kernel)
theorem q5_135 : (.instanceMethod ⟨"SpringleafModel","sheets","()I"⟩ : Cond) ∈ TW := tw_5 (List.mem_of_getElem? (i := 135) (by decide +kernel)) (by decide +kernel)
theorem q5_136 : (.selects "SpringleafModel" ⟨"SpringleafModel","sheets","()I"⟩ ⟨"SpringleafModel","sheets","()I"⟩ : Cond) ∈ TW := tw_5 (List.mem_of_getElem? (i := 136) (by decide +kernel)) (by decide +kernel)
theorem q5_137 : (.code ⟨"SpringleafModel","sheets","()I"⟩ prog_5_method_29_code 1 (some .int) : Cond) ∈ TW := tw_5 (List.mem_of_getElem? (i := 137) (by decide +kernel)) (by decide +kernel)
theorem q5_138 : (.methodLink "SpringleafModel" 147 ⟨"SpringleafModel","lays","()V"⟩ : Cond) ∈ TW := tw_5 (List.mem_of_getElem? (i := 138) (by decide +kernel)) (by decide +kernel)
theorem q5_139 : (.privateMethod ⟨"SpringleafModel","lays","()V"⟩ : Cond) ∈ TW := tw_5 (List.mem_of_getElem? (i := 139) (by decide +kernel)) (by decide +kernel)
theorem q5_140 : (.instanceMethod ⟨"SpringleafModel","lays","()V"⟩ : Cond) ∈ TW := tw_5 (List.mem_of_getElem? (i := 140) (by decide +kernel)) (by decide +kernel)
theorem q5_141 : (.code ⟨"SpringleafModel","lays","()V"⟩ prog_5_method_28_code 3 none : Cond) ∈ TW := tw_5 (List.mem_of_getElem? (i := 141) (by decide +kernel)) (by decide +kernel)
theorem q5_142 : (.methodLink "SpringleafModel" 141 ⟨"SpringleafModel","shelfFor","(I)I"⟩ : Cond) ∈ TW := tw_5 (List.mem_of_getElem? (i := 142) (by decide +kernel)) (by decide +kernel)
theorem q5_143 : (.privateMethod ⟨"SpringleafModel","shelfFor","(I)I"⟩ : Cond) ∈ TW := tw_5 (List.mem_of_getElem? (i := 143) (by decide +kernel)) (by decide +kernel)
theorem q5_144 : (.instanceMethod ⟨"SpringleafModel","shelfFor","(I)I"⟩ : Cond) ∈ TW := tw_5 (List.mem_of_getElem? (i := 144) (by decide +kernel)) (by decide +kernel)
theorem q5_145 : (.code ⟨"SpringleafModel","shelfFor","(I)I"⟩ prog_5_method_26_code 6 (some .int) : Cond) ∈ TW := tw_5 (List.mem_of_getElem? (i := 145) (by decide +kernel)) (by decide +kernel)
theorem q5_146 : (.methodLink "SpringleafModel" 131 ⟨"SpringleafModel","tall","(I)I"⟩ : Cond) ∈ TW := tw_5 (List.mem_of_getElem? (i := 146) (by decide +kernel)) (by decide +kernel)
theorem q5_147 : (.privateMethod ⟨"SpringleafModel","tall","(I)I"⟩ : Cond) ∈ TW := tw_5 (List.mem_of_getElem? (i := 147) (by decide +kernel)) (by decide +kernel)
theorem q5_148 : (.instanceMethod ⟨"SpringleafModel","tall","(I)I"⟩ : Cond) ∈ TW := tw_5 (List.mem_of_getElem? (i := 148) (by decide +kernel)) (by decide +kernel)
theorem q5_149 : (.code ⟨"SpringleafModel","tall","(I)I"⟩ prog_5_method_25_code 2 (some .int) : Cond) ∈ TW := tw_5 (List.mem_of_getElem? (i := 149) (by decide +kernel)) (by decide +kernel)
theorem q5_150 : (.methodLink "SpringleafModel" 135 ⟨"SpringleafModel","wide","(I)I"⟩ : Cond) ∈ TW := tw_5 (List.mem_of_getElem? (i := 150) (by decide +kernel)) (by decide +kernel)
theorem q5_151 : (.privateMethod ⟨"SpringleafModel","wide","(I)I"⟩ : Cond) ∈ TW := tw_5 (List.mem_of_getElem? (i := 151) (by decide +kernel)) (by decide +kernel)
theorem q5_152 : (.instanceMethod ⟨"SpringleafModel","wide","(I)I"⟩ : Cond) ∈ TW := tw_5 (List.mem_of_getElem? (i := 152) (by decide +kernel)) (by decide +kernel)
theorem q5_153 : (.code ⟨"SpringleafModel","wide","(I)I"⟩ prog_5_method_24_code 2 (some .int) : Cond) ∈ TW := tw_5 (List.mem_of_getElem? (i := 153) (by decide +kernel)) (by decide +kernel)
theorem q5_154 : (.methodLink "SpringleafModel" 144 ⟨"SpringleafModel","newShelf","(I)I"⟩ : Cond) ∈ TW := tw_5 (List.mem_of_getElem? (i := 154) (by decide +kernel)) (by decide +kernel)
theorem q5_155 : (.privateMethod ⟨"SpringleafModel","newShelf","(I)I"⟩ : Cond) ∈ TW := tw_5 (List.mem_of_getElem? (i := 155) (by decide +kernel)) (by decide +kernel)
theorem q5_156 : (.instanceMethod ⟨"SpringleafModel","newShelf","(I)I"⟩ : Cond) ∈ TW := tw_5 (List.mem_of_getElem? (i := 156) (by decide +kernel)) (by decide +kernel)
theorem q5_157 : (.code ⟨"SpringleafModel","newShelf","(I)I"⟩ prog_5_method_27_code 3 (some .int) : Cond) ∈ TW := tw_5 (List.mem_of_getElem? (i := 157) (by decide +kernel)) (by decide +kernel)
theorem q5_158 : (.methodLink "SpringleafLaw" 98 ⟨"SpringleafModel","laid","(II)I"⟩ : Cond) ∈ TW := tw_5 (List.mem_of_getElem? (i := 158) (by decide +kernel)) (by decide +kernel)
theorem q5_159 : (.instanceMethod ⟨"SpringleafModel","laid","(II)I"⟩ : Cond) ∈ TW := tw_5 (List.mem_of_getElem? (i := 159) (by decide +kernel)) (by decide +kernel)
theorem q5_160 : (.selects "SpringleafModel" ⟨"SpringleafModel","laid","(II)I"⟩ ⟨"SpringleafModel","laid","(II)I"⟩ : Cond) ∈ TW := tw_5 (List.mem_of_getElem? (i := 160) (by decide +kernel)) (by decide +kernel)
theorem q5_161 : (.code ⟨"SpringleafModel","laid","(II)I"⟩ prog_5_method_30_code 3 (some .int) : Cond) ∈ TW := tw_5 (List.mem_of_getElem? (i := 161) (by decide +kernel)) (by decide +kernel)
theorem q5_162 : (.methodLink "SpringleafLaw" 102 ⟨"SpringleafModel","glue","(I)I"⟩ : Cond) ∈ TW := tw_5 (List.mem_of_getElem? (i := 162) (by decide +kernel)) (by decide +kernel)
theorem q5_163 : (.instanceMethod ⟨"SpringleafModel","glue","(I)I"⟩ : Cond) ∈ TW := tw_5 (List.mem_of_getElem? (i := 163) (by decide +kernel)) (by decide +kernel)
theorem q5_164 : (.selects "SpringleafModel" ⟨"SpringleafModel","glue","(I)I"⟩ ⟨"SpringleafModel","glue","(I)I"⟩ : Cond) ∈ TW := tw_5 (List.mem_of_getElem? (i := 164) (by decide +kernel)) (by decide +kernel)
theorem q5_165 : (.code ⟨"SpringleafModel","glue","(I)I"⟩ prog_5_method_33_code 2 (some .int) : Cond) ∈ TW := tw_5 (List.mem_of_getElem? (i := 165) (by decide +kernel)) (by decide +kernel)
theorem q5_166 : (.methodLink "SpringleafModel" 153 ⟨"SpringleafModel","canGlue","(I)Z"⟩ : Cond) ∈ TW := tw_5 (List.mem_of_getElem? (i := 166) (by decide +kernel)) (by decide +kernel)
theorem q5_167 : (.privateMethod ⟨"SpringleafModel","canGlue","(I)Z"⟩ : Cond) ∈ TW := tw_5 (List.mem_of_getElem? (i := 167) (by decide +kernel)) (by decide +kernel)
theorem q5_168 : (.instanceMethod ⟨"SpringleafModel","canGlue","(I)Z"⟩ : Cond) ∈ TW := tw_5 (List.mem_of_getElem? (i := 168) (by decide +kernel)) (by decide +kernel)
theorem q5_169 : (.code ⟨"SpringleafModel","canGlue","(I)Z"⟩ prog_5_method_32_code 6 (some .boolean) : Cond) ∈ TW := tw_5 (List.mem_of_getElem? (i := 169) (by decide +kernel)) (by decide +kernel)
theorem q5_170 : (.methodLink "SpringleafModel" 150 ⟨"SpringleafModel","stepOf","(I)I"⟩ : Cond) ∈ TW := tw_5 (List.mem_of_getElem? (i := 170) (by decide +kernel)) (by decide +kernel)
theorem q5_171 : (.privateMethod ⟨"SpringleafModel","stepOf","(I)I"⟩ : Cond) ∈ TW := tw_5 (List.mem_of_getElem? (i := 171) (by decide +kernel)) (by decide +kernel)
theorem q5_172 : (.instanceMethod ⟨"SpringleafModel","stepOf","(I)I"⟩ : Cond) ∈ TW := tw_5 (List.mem_of_getElem? (i := 172) (by decide +kernel)) (by decide +kernel)
theorem q5_173 : (.code ⟨"SpringleafModel","stepOf","(I)I"⟩ prog_5_method_31_code 4 (some .int) : Cond) ∈ TW := tw_5 (List.mem_of_getElem? (i := 173) (by decide +kernel)) (by decide +kernel)
theorem q5_174 : (.methodLink "SpringleafLaw" 106 ⟨"SpringleafModel","unglue","()I"⟩ : Cond) ∈ TW := tw_5 (List.mem_of_getElem? (i := 174) (by decide +kernel)) (by decide +kernel)
theorem q5_175 : (.instanceMethod ⟨"SpringleafModel","unglue","()I"⟩ : Cond) ∈ TW := tw_5 (List.mem_of_getElem? (i := 175) (by decide +kernel)) (by decide +kernel)
theorem q5_176 : (.selects "SpringleafModel" ⟨"SpringleafModel","unglue","()I"⟩ ⟨"SpringleafModel","unglue","()I"⟩ : Cond) ∈ TW := tw_5 (List.mem_of_getElem? (i := 176) (by decide +kernel)) (by decide +kernel)
theorem q5_177 : (.code ⟨"SpringleafModel","unglue","()I"⟩ prog_5_method_34_code 1 (some .int) : Cond) ∈ TW := tw_5 (List.mem_of_getElem? (i := 177) (by decide +kernel)) (by decide +kernel)
theorem q5_178 : (.methodLink "SpringleafLaw" 109 ⟨"SpringleafModel","glued","(I)I"⟩ : Cond) ∈ TW := tw_5 (List.mem_of_getElem? (i := 178) (by decide +kernel)) (by decide +kernel)
theorem q5_179 : (.instanceMethod ⟨"SpringleafModel","glued","(I)I"⟩ : Cond) ∈ TW := tw_5 (List.mem_of_getElem? (i := 179) (by decide +kernel)) (by decide +kernel)
theorem q5_180 : (.selects "SpringleafModel" ⟨"SpringleafModel","glued","(I)I"⟩ ⟨"SpringleafModel","glued","(I)I"⟩ : Cond) ∈ TW := tw_5 (List.mem_of_getElem? (i := 180) (by decide +kernel)) (by decide +kernel)
theorem q5_181 : (.code ⟨"SpringleafModel","glued","(I)I"⟩ prog_5_method_35_code 2 (some .int) : Cond) ∈ TW := tw_5 (List.mem_of_getElem? (i := 181) (by decide +kernel)) (by decide +kernel)
theorem q5_182 : (.methodLink "SpringleafLaw" 112 ⟨"SpringleafModel","resize","(II)I"⟩ : Cond) ∈ TW := tw_5 (List.mem_of_getElem? (i := 182) (by decide +kernel)) (by decide +kernel)
theorem q5_183 : (.instanceMethod ⟨"SpringleafModel","resize","(II)I"⟩ : Cond) ∈ TW := tw_5 (List.mem_of_getElem? (i := 183) (by decide +kernel)) (by decide +kernel)
theorem q5_184 : (.selects "SpringleafModel" ⟨"SpringleafModel","resize","(II)I"⟩ ⟨"SpringleafModel","resize","(II)I"⟩ : Cond) ∈ TW := tw_5 (List.mem_of_getElem? (i := 184) (by decide +kernel)) (by decide +kernel)
theorem q5_185 : (.code ⟨"SpringleafModel","resize","(II)I"⟩ prog_5_method_36_code 5 (some .int) : Cond) ∈ TW := tw_5 (List.mem_of_getElem? (i := 185) (by decide +kernel)) (by decide +kernel)
theorem q5_186 : (.methodLink "SpringleafLaw" 117 ⟨"SpringleafModel","isBound","()Z"⟩ : Cond) ∈ TW := tw_5 (List.mem_of_getElem? (i := 186) (by decide +kernel)) (by decide +kernel)
theorem q5_187 : (.instanceMethod ⟨"SpringleafModel","isBound","()Z"⟩ : Cond) ∈ TW := tw_5 (List.mem_of_getElem? (i := 187) (by decide +kernel)) (by decide +kernel)
theorem q5_188 : (.selects "SpringleafModel" ⟨"SpringleafModel","isBound","()Z"⟩ ⟨"SpringleafModel","isBound","()Z"⟩ : Cond) ∈ TW := tw_5 (List.mem_of_getElem? (i := 188) (by decide +kernel)) (by decide +kernel)
theorem q5_189 : (.code ⟨"SpringleafModel","isBound","()Z"⟩ prog_5_method_37_code 1 (some .boolean) : Cond) ∈ TW := tw_5 (List.mem_of_getElem? (i := 189) (by decide +kernel)) (by decide +kernel)
theorem q5_190 : (.methodLink "SpringleafLaw" 120 ⟨"SpringleafModel","tells","(II)C"⟩ : Cond) ∈ TW := tw_5 (List.mem_of_getElem? (i := 190) (by decide +kernel)) (by decide +kernel)
theorem q5_191 : (.instanceMethod ⟨"SpringleafModel","tells","(II)C"⟩ : Cond) ∈ TW := tw_5 (List.mem_of_getElem? (i := 191) (by decide +kernel)) (by decide +kernel)
theorem q5_192 : (.selects "SpringleafModel" ⟨"SpringleafModel","tells","(II)C"⟩ ⟨"SpringleafModel","tells","(II)C"⟩ : Cond) ∈ TW := tw_5 (List.mem_of_getElem? (i := 192) (by decide +kernel)) (by decide +kernel)
theorem q5_193 : (.code ⟨"SpringleafModel","tells","(II)C"⟩ prog_5_method_43_code 5 (some .char) : Cond) ∈ TW := tw_5 (List.mem_of_getElem? (i := 193) (by decide +kernel)) (by decide +kernel)
theorem q5_194 : (.methodLink "SpringleafModel" 166 ⟨"SpringleafModel","signs","(I)I"⟩ : Cond) ∈ TW := tw_5 (List.mem_of_getElem? (i := 194) (by decide +kernel)) (by decide +kernel)
theorem q5_195 : (.privateMethod ⟨"SpringleafModel","signs","(I)I"⟩ : Cond) ∈ TW := tw_5 (List.mem_of_getElem? (i := 195) (by decide +kernel)) (by decide +kernel)
theorem q5_196 : (.instanceMethod ⟨"SpringleafModel","signs","(I)I"⟩ : Cond) ∈ TW := tw_5 (List.mem_of_getElem? (i := 196) (by decide +kernel)) (by decide +kernel)
theorem q5_197 : (.code ⟨"SpringleafModel","signs","(I)I"⟩ prog_5_method_41_code 2 (some .int) : Cond) ∈ TW := tw_5 (List.mem_of_getElem? (i := 197) (by decide +kernel)) (by decide +kernel)
theorem q5_198 : (.methodLink "SpringleafModel" 156 ⟨"SpringleafModel","digits","(I)I"⟩ : Cond) ∈ TW := tw_5 (List.mem_of_getElem? (i := 198) (by decide +kernel)) (by decide +kernel)
theorem q5_199 : (.privateMethod ⟨"SpringleafModel","digits","(I)I"⟩ : Cond) ∈ TW := tw_5 (List.mem_of_getElem? (i := 199) (by decide +kernel)) (by decide +kernel)
theorem q5_200 : (.instanceMethod ⟨"SpringleafModel","digits","(I)I"⟩ : Cond) ∈ TW := tw_5 (List.mem_of_getElem? (i := 200) (by decide +kernel)) (by decide +kernel)
theorem q5_201 : (.code ⟨"SpringleafModel","digits","(I)I"⟩ prog_5_method_38_code 2 (some .int) : Cond) ∈ TW := tw_5 (List.mem_of_getElem? (i := 201) (by decide +kernel)) (by decide +kernel)
theorem q5_202 : (.methodLink "SpringleafModel" 159 ⟨"SpringleafModel","flat","(I)I"⟩ : Cond) ∈ TW := tw_5 (List.mem_of_getElem? (i := 202) (by decide +kernel)) (by decide +kernel)
theorem q5_203 : (.privateMethod ⟨"SpringleafModel","flat","(I)I"⟩ : Cond) ∈ TW := tw_5 (List.mem_of_getElem? (i := 203) (by decide +kernel)) (by decide +kernel)
theorem q5_204 : (.instanceMethod ⟨"SpringleafModel","flat","(I)I"⟩ : Cond) ∈ TW := tw_5 (List.mem_of_getElem? (i := 204) (by decide +kernel)) (by decide +kernel)
theorem q5_205 : (.code ⟨"SpringleafModel","flat","(I)I"⟩ prog_5_method_40_code 2 (some .int) : Cond) ∈ TW := tw_5 (List.mem_of_getElem? (i := 205) (by decide +kernel)) (by decide +kernel)
theorem q5_206 : (.methodLink "SpringleafModel" 169 ⟨"SpringleafModel","sign","(II)C"⟩ : Cond) ∈ TW := tw_5 (List.mem_of_getElem? (i := 206) (by decide +kernel)) (by decide +kernel)
theorem q5_207 : (.privateMethod ⟨"SpringleafModel","sign","(II)C"⟩ : Cond) ∈ TW := tw_5 (List.mem_of_getElem? (i := 207) (by decide +kernel)) (by decide +kernel)
theorem q5_208 : (.instanceMethod ⟨"SpringleafModel","sign","(II)C"⟩ : Cond) ∈ TW := tw_5 (List.mem_of_getElem? (i := 208) (by decide +kernel)) (by decide +kernel)
theorem q5_209 : (.code ⟨"SpringleafModel","sign","(II)C"⟩ prog_5_method_42_code 4 (some .char) : Cond) ∈ TW := tw_5 (List.mem_of_getElem? (i := 209) (by decide +kernel)) (by decide +kernel)
theorem q5_210 : (.methodLink "SpringleafModel" 162 ⟨"SpringleafModel","digit","(II)C"⟩ : Cond) ∈ TW := tw_5 (List.mem_of_getElem? (i := 210) (by decide +kernel)) (by decide +kernel)
theorem q5_211 : (.privateMethod ⟨"SpringleafModel","digit","(II)C"⟩ : Cond) ∈ TW := tw_5 (List.mem_of_getElem? (i := 211) (by decide +kernel)) (by decide +kernel)
theorem q5_212 : (.instanceMethod ⟨"SpringleafModel","digit","(II)C"⟩ : Cond) ∈ TW := tw_5 (List.mem_of_getElem? (i := 212) (by decide +kernel)) (by decide +kernel)
theorem q5_213 : (.code ⟨"SpringleafModel","digit","(II)C"⟩ prog_5_method_39_code 3 (some .char) : Cond) ∈ TW := tw_5 (List.mem_of_getElem? (i := 213) (by decide +kernel)) (by decide +kernel)
theorem q5_214 : (.arrayClass .long : Cond) ∈ TW := tw_5 (List.mem_of_getElem? (i := 214) (by decide +kernel)) (by decide +kernel)
theorem q5_215 : (.sameMethod "java/lang/Throwable" "java/lang/Throwable" "fillInStackTrace" "(I)Ljava/lang/Throwable;" : Cond) ∈ TW := tw_5 (List.mem_of_getElem? (i := 215) (by decide +kernel)) (by decide +kernel)
theorem q5_216 : (.sameMethod "java/lang/AbstractStringBuilder" "java/lang/AbstractStringBuilder" "setLength" "(I)V" : Cond) ∈ TW := tw_5 (List.mem_of_getElem? (i := 216) (by decide +kernel)) (by decide +kernel)
theorem q5_217 : (.sameMethod "java/lang/AbstractStringBuilder" "java/lang/AbstractStringBuilder" "append" "(Ljava/lang/String;)Ljava/lang/AbstractStringBuilder;" : Cond) ∈ TW := tw_5 (List.mem_of_getElem? (i := 217) (by decide +kernel)) (by decide +kernel)
theorem q5_218 : (.sameMethod "java/lang/AbstractStringBuilder" "java/lang/AbstractStringBuilder" "appendNull" "()Ljava/lang/AbstractStringBuilder;" : Cond) ∈ TW := tw_5 (List.mem_of_getElem? (i := 218) (by decide +kernel)) (by decide +kernel)
theorem q5_219 : (.sameMethod "java/lang/AbstractStringBuilder" "java/lang/AbstractStringBuilder" "ensureCapacityInternal" "(I)V" : Cond) ∈ TW := tw_5 (List.mem_of_getElem? (i := 219) (by decide +kernel)) (by decide +kernel)
theorem q5_220 : (.sameMethod "java/lang/AbstractStringBuilder" "java/lang/AbstractStringBuilder" "newCapacity" "(I)I" : Cond) ∈ TW := tw_5 (List.mem_of_getElem? (i := 220) (by decide +kernel)) (by decide +kernel)
theorem q5_221 : (.sameMethod "java/lang/AbstractStringBuilder" "java/lang/AbstractStringBuilder" "putStringAt" "(ILjava/lang/String;)V" : Cond) ∈ TW := tw_5 (List.mem_of_getElem? (i := 221) (by decide +kernel)) (by decide +kernel)
theorem q5_222 : (.sameMethod "java/lang/AbstractStringBuilder" "java/lang/AbstractStringBuilder" "inflateIfNeededFor" "(Ljava/lang/String;)V" : Cond) ∈ TW := tw_5 (List.mem_of_getElem? (i := 222) (by decide +kernel)) (by decide +kernel)
theorem q5_223 : (.sameMethod "java/lang/AbstractStringBuilder" "java/lang/AbstractStringBuilder" "inflate" "()V" : Cond) ∈ TW := tw_5 (List.mem_of_getElem? (i := 223) (by decide +kernel)) (by decide +kernel)
theorem q5_224 : (.sameMethod "java/lang/AbstractStringBuilder" "java/lang/AbstractStringBuilder" "append" "(I)Ljava/lang/AbstractStringBuilder;" : Cond) ∈ TW := tw_5 (List.mem_of_getElem? (i := 224) (by decide +kernel)) (by decide +kernel)
theorem q5_225 : (.sameMethod "java/lang/AbstractStringBuilder" "java/lang/AbstractStringBuilder" "append" "(C)Ljava/lang/AbstractStringBuilder;" : Cond) ∈ TW := tw_5 (List.mem_of_getElem? (i := 225) (by decide +kernel)) (by decide +kernel)
theorem q5_226 : (.selects "java/lang/StringBuilder" ⟨"java/lang/StringBuilder","length","()I"⟩ ⟨"java/lang/StringBuilder","length","()I"⟩ : Cond) ∈ TW := tw_5 (List.mem_of_getElem? (i := 226) (by decide +kernel)) (by decide +kernel)
theorem q5_227 : (.sameMethod "java/lang/AbstractStringBuilder" "java/lang/AbstractStringBuilder" "charAt" "(I)C" : Cond) ∈ TW := tw_5 (List.mem_of_getElem? (i := 227) (by decide +kernel)) (by decide +kernel)
theorem q5_228 : (.castable "java/lang/ArrayIndexOutOfBoundsException" "java/lang/IndexOutOfBoundsException" : Cond) ∈ TW := tw_5 (List.mem_of_getElem? (i := 228) (by decide +kernel)) (by decide +kernel)
theorem q5_229 : (.castable "java/lang/StringIndexOutOfBoundsException" "java/lang/IndexOutOfBoundsException" : Cond) ∈ TW := tw_5 (List.mem_of_getElem? (i := 229) (by decide +kernel)) (by decide +kernel)
theorem q5_230 : (.castable "Springleaf" "java/lang/Object" : Cond) ∈ TW := tw_5 (List.mem_of_getElem? (i := 230) (by decide +kernel)) (by decide +kernel)
theorem q5_231 : (.castable "java/util/ArrayList" "java/lang/Object" : Cond) ∈ TW := tw_5 (List.mem_of_getElem? (i := 231) (by decide +kernel)) (by decide +kernel)
theorem q5_232 : (.castable "java/lang/StringBuilder" "java/lang/Object" : Cond) ∈ TW := tw_5 (List.mem_of_getElem? (i := 232) (by decide +kernel)) (by decide +kernel)
theorem q5_233 : (.castable "Springleaf$Fold" "java/lang/Object" : Cond) ∈ TW := tw_5 (List.mem_of_getElem? (i := 233) (by decide +kernel)) (by decide +kernel)
theorem q5_234 : (.castable "SpringleafModel" "java/lang/Object" : Cond) ∈ TW := tw_5 (List.mem_of_getElem? (i := 234) (by decide +kernel)) (by decide +kernel)
theorem q5_235 : (.castable "java/lang/IndexOutOfBoundsException" "java/lang/Object" : Cond) ∈ TW := tw_5 (List.mem_of_getElem? (i := 235) (by decide +kernel)) (by decide +kernel)
theorem q5_236 : (.castable "java/lang/IllegalArgumentException" "java/lang/Object" : Cond) ∈ TW := tw_5 (List.mem_of_getElem? (i := 236) (by decide +kernel)) (by decide +kernel)
theorem q5_237 : (.castable "java/lang/IllegalStateException" "java/lang/Object" : Cond) ∈ TW := tw_5 (List.mem_of_getElem? (i := 237) (by decide +kernel)) (by decide +kernel)
theorem q5_238 : (.castable "Springleaf$Part" "java/lang/Object" : Cond) ∈ TW := tw_5 (List.mem_of_getElem? (i := 238) (by decide +kernel)) (by decide +kernel)
theorem q5_239 : (.castable "java/lang/StringIndexOutOfBoundsException" "java/lang/Object" : Cond) ∈ TW := tw_5 (List.mem_of_getElem? (i := 239) (by decide +kernel)) (by decide +kernel)
theorem q6_0 : (.castable "java/lang/String" "java/lang/Object" : Cond) ∈ TW := tw_6 (List.mem_of_getElem? (i := 0) (by decide +kernel)) (by decide +kernel)
theorem q6_1 : (.castable "java/lang/ArrayIndexOutOfBoundsException" "java/lang/Object" : Cond) ∈ TW := tw_6 (List.mem_of_getElem? (i := 1) (by decide +kernel)) (by decide +kernel)
theorem q6_2 : (.castable "java/lang/Throwable" "java/lang/Object" : Cond) ∈ TW := tw_6 (List.mem_of_getElem? (i := 2) (by decide +kernel)) (by decide +kernel)
theorem q6_3 : (.sameMethod "[Ljava/lang/Object;" "java/lang/Object" "getClass" "()Ljava/lang/Class;" : Cond) ∈ TW := tw_6 (List.mem_of_getElem? (i := 3) (by decide +kernel)) (by decide +kernel)
theorem q6_4 : (.selects "[Ljava/lang/Object;" ⟨"java/lang/Object","getClass","()Ljava/lang/Class;"⟩ ⟨"java/lang/Object","getClass","()Ljava/lang/Class;"⟩ : Cond) ∈ TW := tw_6 (List.mem_of_getElem? (i := 4) (by decide +kernel)) (by decide +kernel)
theorem q6_5 : (.declares ⟨"java/lang/Object","getClass","()Ljava/lang/Class;"⟩ : Cond) ∈ TW := tw_6 (List.mem_of_getElem? (i := 5) (by decide +kernel)) (by decide +kernel)
theorem q6_6 : (.castable "[B" "java/lang/Object" : Cond) ∈ TW := tw_6 (List.mem_of_getElem? (i := 6) (by decide +kernel)) (by decide +kernel)
theorem q6_7 : (.castable "[Ljava/lang/Object;" "java/lang/Object" : Cond) ∈ TW := tw_6 (List.mem_of_getElem? (i := 7) (by decide +kernel)) (by decide +kernel)
theorem q6_8 : (.castable "[I" "java/lang/Object" : Cond) ∈ TW := tw_6 (List.mem_of_getElem? (i := 8) (by decide +kernel)) (by decide +kernel)
theorem q6_9 : (.castable "[J" "java/lang/Object" : Cond) ∈ TW := tw_6 (List.mem_of_getElem? (i := 9) (by decide +kernel)) (by decide +kernel)
theorem qs_0 : (.selects "java/util/ArrayList" ⟨"java/util/ArrayList","add","(Ljava/lang/Object;[Ljava/lang/Object;I)V"⟩ ⟨"java/util/ArrayList","add","(Ljava/lang/Object;[Ljava/lang/Object;I)V"⟩ : Cond) ∈ TW := tw_0 (List.mem_of_getElem? (i := 0) (by decide +kernel)) (by decide +kernel)
theorem qs_1 : (.selects "java/util/ArrayList" ⟨"java/util/ArrayList","grow","()[Ljava/lang/Object;"⟩ ⟨"java/util/ArrayList","grow","()[Ljava/lang/Object;"⟩ : Cond) ∈ TW := tw_0 (List.mem_of_getElem? (i := 1) (by decide +kernel)) (by decide +kernel)
theorem qs_2 : (.selects "java/util/ArrayList" ⟨"java/util/ArrayList","grow","(I)[Ljava/lang/Object;"⟩ ⟨"java/util/ArrayList","grow","(I)[Ljava/lang/Object;"⟩ : Cond) ∈ TW := tw_0 (List.mem_of_getElem? (i := 2) (by decide +kernel)) (by decide +kernel)
theorem qs_3 : (.selects "Springleaf" ⟨"Springleaf","openTo","(I)V"⟩ ⟨"Springleaf","openTo","(I)V"⟩ : Cond) ∈ TW := tw_0 (List.mem_of_getElem? (i := 3) (by decide +kernel)) (by decide +kernel)
theorem qs_4 : (.selects "Springleaf" ⟨"Springleaf","firstThatMeetsAnother","()I"⟩ ⟨"Springleaf","firstThatMeetsAnother","()I"⟩ : Cond) ∈ TW := tw_0 (List.mem_of_getElem? (i := 4) (by decide +kernel)) (by decide +kernel)
theorem qs_5 : (.selects "Springleaf" ⟨"Springleaf","layAllParts","()V"⟩ ⟨"Springleaf","layAllParts","()V"⟩ : Cond) ∈ TW := tw_0 (List.mem_of_getElem? (i := 5) (by decide +kernel)) (by decide +kernel)
theorem qs_6 : (.selects "Springleaf" ⟨"Springleaf","lay","(LSpringleaf$Part;)V"⟩ ⟨"Springleaf","lay","(LSpringleaf$Part;)V"⟩ : Cond) ∈ TW := tw_0 (List.mem_of_getElem? (i := 6) (by decide +kernel)) (by decide +kernel)
theorem qs_7 : (.selects "Springleaf" ⟨"Springleaf","firstOfShelfFor","(LSpringleaf$Part;)LSpringleaf$Part;"⟩ ⟨"Springleaf","firstOfShelfFor","(LSpringleaf$Part;)LSpringleaf$Part;"⟩ : Cond) ∈ TW := tw_0 (List.mem_of_getElem? (i := 7) (by decide +kernel)) (by decide +kernel)
theorem qs_8 : (.selects "Springleaf" ⟨"Springleaf","beginShelf","(LSpringleaf$Part;)V"⟩ ⟨"Springleaf","beginShelf","(LSpringleaf$Part;)V"⟩ : Cond) ∈ TW := tw_0 (List.mem_of_getElem? (i := 8) (by decide +kernel)) (by decide +kernel)
theorem qs_9 : (.selects "Springleaf" ⟨"Springleaf","sheetForShelf","(I)I"⟩ ⟨"Springleaf","sheetForShelf","(I)I"⟩ : Cond) ∈ TW := tw_0 (List.mem_of_getElem? (i := 9) (by decide +kernel)) (by decide +kernel)
theorem qs_10 : (.selects "Springleaf" ⟨"Springleaf","filledHeight","(I)I"⟩ ⟨"Springleaf","filledHeight","(I)I"⟩ : Cond) ∈ TW := tw_0 (List.mem_of_getElem? (i := 10) (by decide +kernel)) (by decide +kernel)
theorem qs_11 : (.selects "Springleaf" ⟨"Springleaf","requireFold","(I)V"⟩ ⟨"Springleaf","requireFold","(I)V"⟩ : Cond) ∈ TW := tw_0 (List.mem_of_getElem? (i := 11) (by decide +kernel)) (by decide +kernel)
theorem qs_12 : (.selects "java/lang/Throwable" ⟨"java/lang/Throwable","fillInStackTrace","(I)Ljava/lang/Throwable;"⟩ ⟨"java/lang/Throwable","fillInStackTrace","(I)Ljava/lang/Throwable;"⟩ : Cond) ∈ TW := tw_0 (List.mem_of_getElem? (i := 12) (by decide +kernel)) (by decide +kernel)
theorem qs_13 : (.selects "Springleaf" ⟨"Springleaf","openByDegreesTo","(I)V"⟩ ⟨"Springleaf","openByDegreesTo","(I)V"⟩ : Cond) ∈ TW := tw_0 (List.mem_of_getElem? (i := 13) (by decide +kernel)) (by decide +kernel)
theorem qs_14 : (.selects "Springleaf" ⟨"Springleaf","requirePart","(I)V"⟩ ⟨"Springleaf","requirePart","(I)V"⟩ : Cond) ∈ TW := tw_0 (List.mem_of_getElem? (i := 14) (by decide +kernel)) (by decide +kernel)
theorem qs_15 : (.selects "Springleaf" ⟨"Springleaf","isStartCovered","(LSpringleaf$Part;)Z"⟩ ⟨"Springleaf","isStartCovered","(LSpringleaf$Part;)Z"⟩ : Cond) ∈ TW := tw_0 (List.mem_of_getElem? (i := 15) (by decide +kernel)) (by decide +kernel)
theorem qs_16 : (.selects "Springleaf" ⟨"Springleaf","hasHold","(LSpringleaf$Part;)Z"⟩ ⟨"Springleaf","hasHold","(LSpringleaf$Part;)Z"⟩ : Cond) ∈ TW := tw_0 (List.mem_of_getElem? (i := 16) (by decide +kernel)) (by decide +kernel)
theorem qs_17 : (.selects "Springleaf" ⟨"Springleaf","partGluedAt","(I)I"⟩ ⟨"Springleaf","partGluedAt","(I)I"⟩ : Cond) ∈ TW := tw_0 (List.mem_of_getElem? (i := 17) (by decide +kernel)) (by decide +kernel)
theorem qs_18 : (.selects "Springleaf" ⟨"Springleaf","unglueFrom","(I)I"⟩ ⟨"Springleaf","unglueFrom","(I)I"⟩ : Cond) ∈ TW := tw_0 (List.mem_of_getElem? (i := 18) (by decide +kernel)) (by decide +kernel)
theorem qs_19 : (.selects "Springleaf" ⟨"Springleaf","tellAll","(LSpringleaf$Fold;)V"⟩ ⟨"Springleaf","tellAll","(LSpringleaf$Fold;)V"⟩ : Cond) ∈ TW := tw_0 (List.mem_of_getElem? (i := 19) (by decide +kernel)) (by decide +kernel)
theorem qs_20 : (.selects "SpringleafModel" ⟨"SpringleafModel","in","(III)Z"⟩ ⟨"SpringleafModel","in","(III)Z"⟩ : Cond) ∈ TW := tw_0 (List.mem_of_getElem? (i := 20) (by decide +kernel)) (by decide +kernel)
theorem qs_21 : (.selects "SpringleafModel" ⟨"SpringleafModel","isFold","(I)Z"⟩ ⟨"SpringleafModel","isFold","(I)Z"⟩ : Cond) ∈ TW := tw_0 (List.mem_of_getElem? (i := 21) (by decide +kernel)) (by decide +kernel)
theorem qs_22 : (.selects "SpringleafModel" ⟨"SpringleafModel","bound","()Z"⟩ ⟨"SpringleafModel","bound","()Z"⟩ : Cond) ∈ TW := tw_0 (List.mem_of_getElem? (i := 22) (by decide +kernel)) (by decide +kernel)
theorem qs_23 : (.selects "SpringleafModel" ⟨"SpringleafModel","tests","()I"⟩ ⟨"SpringleafModel","tests","()I"⟩ : Cond) ∈ TW := tw_0 (List.mem_of_getElem? (i := 23) (by decide +kernel)) (by decide +kernel)
theorem qs_24 : (.selects "SpringleafModel" ⟨"SpringleafModel","meets","(III)Z"⟩ ⟨"SpringleafModel","meets","(III)Z"⟩ : Cond) ∈ TW := tw_0 (List.mem_of_getElem? (i := 24) (by decide +kernel)) (by decide +kernel)
theorem qs_25 : (.selects "SpringleafModel" ⟨"SpringleafModel","rises","(II)I"⟩ ⟨"SpringleafModel","rises","(II)I"⟩ : Cond) ∈ TW := tw_0 (List.mem_of_getElem? (i := 25) (by decide +kernel)) (by decide +kernel)
theorem qs_26 : (.selects "SpringleafModel" ⟨"SpringleafModel","angleOf","(II)I"⟩ ⟨"SpringleafModel","angleOf","(II)I"⟩ : Cond) ∈ TW := tw_0 (List.mem_of_getElem? (i := 26) (by decide +kernel)) (by decide +kernel)
theorem qs_27 : (.selects "SpringleafModel" ⟨"SpringleafModel","down","(II)I"⟩ ⟨"SpringleafModel","down","(II)I"⟩ : Cond) ∈ TW := tw_0 (List.mem_of_getElem? (i := 27) (by decide +kernel)) (by decide +kernel)
theorem qs_28 : (.selects "SpringleafModel" ⟨"SpringleafModel","share","(II)Z"⟩ ⟨"SpringleafModel","share","(II)Z"⟩ : Cond) ∈ TW := tw_0 (List.mem_of_getElem? (i := 28) (by decide +kernel)) (by decide +kernel)
theorem qs_29 : (.selects "SpringleafModel" ⟨"SpringleafModel","low","(II)I"⟩ ⟨"SpringleafModel","low","(II)I"⟩ : Cond) ∈ TW := tw_0 (List.mem_of_getElem? (i := 29) (by decide +kernel)) (by decide +kernel)
theorem qs_30 : (.selects "SpringleafModel" ⟨"SpringleafModel","reach","(II)I"⟩ ⟨"SpringleafModel","reach","(II)I"⟩ : Cond) ∈ TW := tw_0 (List.mem_of_getElem? (i := 30) (by decide +kernel)) (by decide +kernel)
theorem qs_31 : (.selects "SpringleafModel" ⟨"SpringleafModel","high","(II)I"⟩ ⟨"SpringleafModel","high","(II)I"⟩ : Cond) ∈ TW := tw_0 (List.mem_of_getElem? (i := 31) (by decide +kernel)) (by decide +kernel)
theorem qs_32 : (.selects "SpringleafModel" ⟨"SpringleafModel","holds","(I)Z"⟩ ⟨"SpringleafModel","holds","(I)Z"⟩ : Cond) ∈ TW := tw_0 (List.mem_of_getElem? (i := 32) (by decide +kernel)) (by decide +kernel)
theorem qs_33 : (.selects "SpringleafModel" ⟨"SpringleafModel","isPart","(I)Z"⟩ ⟨"SpringleafModel","isPart","(I)Z"⟩ : Cond) ∈ TW := tw_0 (List.mem_of_getElem? (i := 33) (by decide +kernel)) (by decide +kernel)
theorem qs_34 : (.selects "SpringleafModel" ⟨"SpringleafModel","lays","()V"⟩ ⟨"SpringleafModel","lays","()V"⟩ : Cond) ∈ TW := tw_0 (List.mem_of_getElem? (i := 34) (by decide +kernel)) (by decide +kernel)
theorem qs_35 : (.selects "SpringleafModel" ⟨"SpringleafModel","shelfFor","(I)I"⟩ ⟨"SpringleafModel","shelfFor","(I)I"⟩ : Cond) ∈ TW := tw_0 (List.mem_of_getElem? (i := 35) (by decide +kernel)) (by decide +kernel)
theorem qs_36 : (.selects "SpringleafModel" ⟨"SpringleafModel","tall","(I)I"⟩ ⟨"SpringleafModel","tall","(I)I"⟩ : Cond) ∈ TW := tw_0 (List.mem_of_getElem? (i := 36) (by decide +kernel)) (by decide +kernel)
theorem qs_37 : (.selects "SpringleafModel" ⟨"SpringleafModel","wide","(I)I"⟩ ⟨"SpringleafModel","wide","(I)I"⟩ : Cond) ∈ TW := tw_0 (List.mem_of_getElem? (i := 37) (by decide +kernel)) (by decide +kernel)
theorem qs_38 : (.selects "SpringleafModel" ⟨"SpringleafModel","newShelf","(I)I"⟩ ⟨"SpringleafModel","newShelf","(I)I"⟩ : Cond) ∈ TW := tw_0 (List.mem_of_getElem? (i := 38) (by decide +kernel)) (by decide +kernel)
theorem qs_39 : (.selects "SpringleafModel" ⟨"SpringleafModel","canGlue","(I)Z"⟩ ⟨"SpringleafModel","canGlue","(I)Z"⟩ : Cond) ∈ TW := tw_0 (List.mem_of_getElem? (i := 39) (by decide +kernel)) (by decide +kernel)
theorem qs_40 : (.selects "SpringleafModel" ⟨"SpringleafModel","stepOf","(I)I"⟩ ⟨"SpringleafModel","stepOf","(I)I"⟩ : Cond) ∈ TW := tw_0 (List.mem_of_getElem? (i := 40) (by decide +kernel)) (by decide +kernel)
theorem qs_41 : (.selects "SpringleafModel" ⟨"SpringleafModel","signs","(I)I"⟩ ⟨"SpringleafModel","signs","(I)I"⟩ : Cond) ∈ TW := tw_0 (List.mem_of_getElem? (i := 41) (by decide +kernel)) (by decide +kernel)
theorem qs_42 : (.selects "SpringleafModel" ⟨"SpringleafModel","digits","(I)I"⟩ ⟨"SpringleafModel","digits","(I)I"⟩ : Cond) ∈ TW := tw_0 (List.mem_of_getElem? (i := 42) (by decide +kernel)) (by decide +kernel)
theorem qs_43 : (.selects "SpringleafModel" ⟨"SpringleafModel","flat","(I)I"⟩ ⟨"SpringleafModel","flat","(I)I"⟩ : Cond) ∈ TW := tw_0 (List.mem_of_getElem? (i := 43) (by decide +kernel)) (by decide +kernel)
theorem qs_44 : (.selects "SpringleafModel" ⟨"SpringleafModel","sign","(II)C"⟩ ⟨"SpringleafModel","sign","(II)C"⟩ : Cond) ∈ TW := tw_0 (List.mem_of_getElem? (i := 44) (by decide +kernel)) (by decide +kernel)
theorem qs_45 : (.selects "SpringleafModel" ⟨"SpringleafModel","digit","(II)C"⟩ ⟨"SpringleafModel","digit","(II)C"⟩ : Cond) ∈ TW := tw_0 (List.mem_of_getElem? (i := 45) (by decide +kernel)) (by decide +kernel)
end
