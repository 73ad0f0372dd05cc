section
/-- a private method of a class that the tables say can be made, by its rows of tables_1 -/
def lw_okq (q : MethodName × Nat) : Prop := (q.1.cls ≠ "java/lang/invoke/MethodHandle" ∧ q.1.cls ≠ "java/lang/invoke/VarHandle") ∧ Cond.instantiable q.1.cls q.2 ∈ tables_1 ∧ Cond.privateMethod q.1 ∈ tables_1 ∧ Cond.instanceMethod q.1 ∈ tables_1
theorem lw_p0 : lw_okq (⟨"ViewCards$Kin", "fewestOtherwise", "(II)I"⟩, 5) := ⟨⟨by decide +kernel, by decide +kernel⟩, List.mem_of_getElem? (i := 99) (by decide +kernel), List.mem_of_getElem? (i := 367) (by decide +kernel), List.mem_of_getElem? (i := 368) (by decide +kernel)⟩
theorem lw_p1 : lw_okq (⟨"ViewCards$Kin", "fewestChanges", "(II)I"⟩, 5) := ⟨⟨by decide +kernel, by decide +kernel⟩, List.mem_of_getElem? (i := 99) (by decide +kernel), List.mem_of_getElem? (i := 393) (by decide +kernel), List.mem_of_getElem? (i := 394) (by decide +kernel)⟩
theorem lw_p2 : lw_okq (⟨"ViewCards", "areTwoThere", "(II)Z"⟩, 10) := ⟨⟨by decide +kernel, by decide +kernel⟩, List.mem_of_getElem? (i := 19) (by decide +kernel), List.mem_of_getElem? (i := 425) (by decide +kernel), List.mem_of_getElem? (i := 426) (by decide +kernel)⟩
theorem lw_p3 : lw_okq (⟨"ViewCards$Kin", "chained", "(IIZ)I"⟩, 5) := ⟨⟨by decide +kernel, by decide +kernel⟩, List.mem_of_getElem? (i := 99) (by decide +kernel), List.mem_of_getElem? (i := 442) (by decide +kernel), List.mem_of_getElem? (i := 443) (by decide +kernel)⟩
theorem lw_p4 : lw_okq (⟨"ViewCards", "timesSeen", "(I)I"⟩, 10) := ⟨⟨by decide +kernel, by decide +kernel⟩, List.mem_of_getElem? (i := 19) (by decide +kernel), List.mem_of_getElem? (i := 484) (by decide +kernel), List.mem_of_getElem? (i := 485) (by decide +kernel)⟩
theorem lw_p5 : lw_okq (⟨"ViewCards", "priceOf", "(I)I"⟩, 10) := ⟨⟨by decide +kernel, by decide +kernel⟩, List.mem_of_getElem? (i := 19) (by decide +kernel), List.mem_of_getElem? (i := 501) (by decide +kernel), List.mem_of_getElem? (i := 502) (by decide +kernel)⟩
theorem lw_p6 : lw_okq (⟨"ViewCards", "cardsSeen", "(I)I"⟩, 10) := ⟨⟨by decide +kernel, by decide +kernel⟩, List.mem_of_getElem? (i := 19) (by decide +kernel), List.mem_of_getElem? (i := 547) (by decide +kernel), List.mem_of_getElem? (i := 548) (by decide +kernel)⟩
theorem lw_p7 : lw_okq (⟨"ViewCards$Kin", "leastOfChains", "(IZ)I"⟩, 5) := ⟨⟨by decide +kernel, by decide +kernel⟩, List.mem_of_getElem? (i := 99) (by decide +kernel), List.mem_of_getElem? (i := 555) (by decide +kernel), List.mem_of_getElem? (i := 556) (by decide +kernel)⟩
theorem lw_p8 : lw_okq (⟨"ViewCards", "cardsInBoth", "(II)I"⟩, 10) := ⟨⟨by decide +kernel, by decide +kernel⟩, List.mem_of_getElem? (i := 19) (by decide +kernel), List.mem_of_getElem? (i := 567) (by decide +kernel), List.mem_of_getElem? (i := 568) (by decide +kernel)⟩
theorem lw_p9 : lw_okq (⟨"ViewCards$Dating", "findLeaders", "(I)V"⟩, 13) := ⟨⟨by decide +kernel, by decide +kernel⟩, List.mem_of_getElem? (i := 152) (by decide +kernel), List.mem_of_getElem? (i := 598) (by decide +kernel), List.mem_of_getElem? (i := 599) (by decide +kernel)⟩
theorem lw_p10 : lw_okq (⟨"ViewCards$Dating", "openPublished", "(ILViewCards$Lines;)V"⟩, 13) := ⟨⟨by decide +kernel, by decide +kernel⟩, List.mem_of_getElem? (i := 152) (by decide +kernel), List.mem_of_getElem? (i := 608) (by decide +kernel), List.mem_of_getElem? (i := 609) (by decide +kernel)⟩
theorem lw_p11 : lw_okq (⟨"ViewCards$Dating", "narrow", "(I)Z"⟩, 13) := ⟨⟨by decide +kernel, by decide +kernel⟩, List.mem_of_getElem? (i := 152) (by decide +kernel), List.mem_of_getElem? (i := 625) (by decide +kernel), List.mem_of_getElem? (i := 626) (by decide +kernel)⟩
theorem lw_p12 : lw_okq (⟨"ViewCards$Dating", "narrowByFeatures", "(I)V"⟩, 13) := ⟨⟨by decide +kernel, by decide +kernel⟩, List.mem_of_getElem? (i := 152) (by decide +kernel), List.mem_of_getElem? (i := 629) (by decide +kernel), List.mem_of_getElem? (i := 630) (by decide +kernel)⟩
theorem lw_p13 : lw_okq (⟨"ViewCards$Dating", "isSomeEmpty", "(I)Z"⟩, 13) := ⟨⟨by decide +kernel, by decide +kernel⟩, List.mem_of_getElem? (i := 152) (by decide +kernel), List.mem_of_getElem? (i := 634) (by decide +kernel), List.mem_of_getElem? (i := 635) (by decide +kernel)⟩
theorem lw_p14 : lw_okq (⟨"ViewCards$Ground", "isOrdered", "(II)Z"⟩, 4) := ⟨⟨by decide +kernel, by decide +kernel⟩, List.mem_of_getElem? (i := 231) (by decide +kernel), List.mem_of_getElem? (i := 675) (by decide +kernel), List.mem_of_getElem? (i := 676) (by decide +kernel)⟩
theorem lw_p15 : lw_okq (⟨"ViewCards$Ground", "seesAll", "(II)Z"⟩, 4) := ⟨⟨by decide +kernel, by decide +kernel⟩, List.mem_of_getElem? (i := 231) (by decide +kernel), List.mem_of_getElem? (i := 682) (by decide +kernel), List.mem_of_getElem? (i := 683) (by decide +kernel)⟩
def lw_privs_1 : List (MethodName × Nat) := [(⟨"ViewCards$Kin", "fewestOtherwise", "(II)I"⟩, 5), (⟨"ViewCards$Kin", "fewestChanges", "(II)I"⟩, 5), (⟨"ViewCards", "areTwoThere", "(II)Z"⟩, 10), (⟨"ViewCards$Kin", "chained", "(IIZ)I"⟩, 5), (⟨"ViewCards", "timesSeen", "(I)I"⟩, 10), (⟨"ViewCards", "priceOf", "(I)I"⟩, 10), (⟨"ViewCards", "cardsSeen", "(I)I"⟩, 10), (⟨"ViewCards$Kin", "leastOfChains", "(IZ)I"⟩, 5), (⟨"ViewCards", "cardsInBoth", "(II)I"⟩, 10), (⟨"ViewCards$Dating", "findLeaders", "(I)V"⟩, 13), (⟨"ViewCards$Dating", "openPublished", "(ILViewCards$Lines;)V"⟩, 13), (⟨"ViewCards$Dating", "narrow", "(I)Z"⟩, 13), (⟨"ViewCards$Dating", "narrowByFeatures", "(I)V"⟩, 13), (⟨"ViewCards$Dating", "isSomeEmpty", "(I)Z"⟩, 13), (⟨"ViewCards$Ground", "isOrdered", "(II)Z"⟩, 4), (⟨"ViewCards$Ground", "seesAll", "(II)Z"⟩, 4)]
theorem lw_r1 : ∀ q ∈ lw_privs_1, lw_okq q := List.forall_mem_cons.mpr ⟨lw_p0, List.forall_mem_cons.mpr ⟨lw_p1, List.forall_mem_cons.mpr ⟨lw_p2, List.forall_mem_cons.mpr ⟨lw_p3, List.forall_mem_cons.mpr ⟨lw_p4, List.forall_mem_cons.mpr ⟨lw_p5, List.forall_mem_cons.mpr ⟨lw_p6, List.forall_mem_cons.mpr ⟨lw_p7, List.forall_mem_cons.mpr ⟨lw_p8, List.forall_mem_cons.mpr ⟨lw_p9, List.forall_mem_cons.mpr ⟨lw_p10, List.forall_mem_cons.mpr ⟨lw_p11, List.forall_mem_cons.mpr ⟨lw_p12, List.forall_mem_cons.mpr ⟨lw_p13, List.forall_mem_cons.mpr ⟨lw_p14, List.forall_mem_cons.mpr ⟨lw_p15, fun _ h => absurd h List.not_mem_nil⟩⟩⟩⟩⟩⟩⟩⟩⟩⟩⟩⟩⟩⟩⟩⟩
theorem lw_p16 : lw_okq (⟨"ViewCards$Ground", "sees", "(II)Z"⟩, 4) := ⟨⟨by decide +kernel, by decide +kernel⟩, List.mem_of_getElem? (i := 231) (by decide +kernel), List.mem_of_getElem? (i := 686) (by decide +kernel), List.mem_of_getElem? (i := 687) (by decide +kernel)⟩
theorem lw_p17 : lw_okq (⟨"ViewCards$Reader", "goOn", "()V"⟩, 5) := ⟨⟨by decide +kernel, by decide +kernel⟩, List.mem_of_getElem? (i := 255) (by decide +kernel), List.mem_of_getElem? (i := 716) (by decide +kernel), List.mem_of_getElem? (i := 717) (by decide +kernel)⟩
theorem lw_p18 : lw_okq (⟨"ViewCards$Reader", "readLine", "(LViewCards$Lines;)V"⟩, 5) := ⟨⟨by decide +kernel, by decide +kernel⟩, List.mem_of_getElem? (i := 255) (by decide +kernel), List.mem_of_getElem? (i := 728) (by decide +kernel), List.mem_of_getElem? (i := 729) (by decide +kernel)⟩
theorem lw_p19 : lw_okq (⟨"ViewCards$Reader", "readWord", "(Ljava/lang/String;)V"⟩, 5) := ⟨⟨by decide +kernel, by decide +kernel⟩, List.mem_of_getElem? (i := 255) (by decide +kernel), List.mem_of_getElem? (i := 733) (by decide +kernel), List.mem_of_getElem? (i := 734) (by decide +kernel)⟩
theorem lw_p20 : lw_okq (⟨"ViewCards$Reader", "isAt", "(Ljava/lang/String;)Z"⟩, 5) := ⟨⟨by decide +kernel, by decide +kernel⟩, List.mem_of_getElem? (i := 255) (by decide +kernel), List.mem_of_getElem? (i := 737) (by decide +kernel), List.mem_of_getElem? (i := 738) (by decide +kernel)⟩
theorem lw_p21 : lw_okq (⟨"ViewCards$Reader", "findWrong", "()V"⟩, 5) := ⟨⟨by decide +kernel, by decide +kernel⟩, List.mem_of_getElem? (i := 255) (by decide +kernel), List.mem_of_getElem? (i := 789) (by decide +kernel), List.mem_of_getElem? (i := 790) (by decide +kernel)⟩
theorem lw_p22 : lw_okq (⟨"ViewCards$Reader", "readNumber", "(II)I"⟩, 5) := ⟨⟨by decide +kernel, by decide +kernel⟩, List.mem_of_getElem? (i := 255) (by decide +kernel), List.mem_of_getElem? (i := 793) (by decide +kernel), List.mem_of_getElem? (i := 794) (by decide +kernel)⟩
theorem lw_p23 : lw_okq (⟨"ViewCards$Reader", "numberAt", "()I"⟩, 5) := ⟨⟨by decide +kernel, by decide +kernel⟩, List.mem_of_getElem? (i := 255) (by decide +kernel), List.mem_of_getElem? (i := 797) (by decide +kernel), List.mem_of_getElem? (i := 798) (by decide +kernel)⟩
theorem lw_p24 : lw_okq (⟨"ViewCardsModel", "isThere", "(I)Z"⟩, 49) := ⟨⟨by decide +kernel, by decide +kernel⟩, List.mem_of_getElem? (i := 829) (by decide +kernel), List.mem_of_getElem? (i := 997) (by decide +kernel), List.mem_of_getElem? (i := 998) (by decide +kernel)⟩
theorem lw_p25 : lw_okq (⟨"ViewCardsModel", "thereMany", "()I"⟩, 49) := ⟨⟨by decide +kernel, by decide +kernel⟩, List.mem_of_getElem? (i := 829) (by decide +kernel), List.mem_of_getElem? (i := 1001) (by decide +kernel), List.mem_of_getElem? (i := 1002) (by decide +kernel)⟩
theorem lw_p26 : lw_okq (⟨"ViewCardsModel", "unlikeOf", "(II)I"⟩, 49) := ⟨⟨by decide +kernel, by decide +kernel⟩, List.mem_of_getElem? (i := 829) (by decide +kernel), List.mem_of_getElem? (i := 1018) (by decide +kernel), List.mem_of_getElem? (i := 1019) (by decide +kernel)⟩
theorem lw_p27 : lw_okq (⟨"ViewCardsModel", "unlikeBy", "(IIII)I"⟩, 49) := ⟨⟨by decide +kernel, by decide +kernel⟩, List.mem_of_getElem? (i := 829) (by decide +kernel), List.mem_of_getElem? (i := 1022) (by decide +kernel), List.mem_of_getElem? (i := 1023) (by decide +kernel)⟩
theorem lw_p28 : lw_okq (⟨"ViewCardsModel", "farOf", "(II)I"⟩, 49) := ⟨⟨by decide +kernel, by decide +kernel⟩, List.mem_of_getElem? (i := 829) (by decide +kernel), List.mem_of_getElem? (i := 1033) (by decide +kernel), List.mem_of_getElem? (i := 1034) (by decide +kernel)⟩
theorem lw_p29 : lw_okq (⟨"ViewCardsModel", "findUnlike", "()V"⟩, 49) := ⟨⟨by decide +kernel, by decide +kernel⟩, List.mem_of_getElem? (i := 829) (by decide +kernel), List.mem_of_getElem? (i := 1041) (by decide +kernel), List.mem_of_getElem? (i := 1042) (by decide +kernel)⟩
theorem lw_p30 : lw_okq (⟨"ViewCardsModel", "isMatch", "(II)Z"⟩, 49) := ⟨⟨by decide +kernel, by decide +kernel⟩, List.mem_of_getElem? (i := 829) (by decide +kernel), List.mem_of_getElem? (i := 1045) (by decide +kernel), List.mem_of_getElem? (i := 1046) (by decide +kernel)⟩
theorem lw_p31 : lw_okq (⟨"ViewCardsModel", "isLike", "(II)Z"⟩, 49) := ⟨⟨by decide +kernel, by decide +kernel⟩, List.mem_of_getElem? (i := 829) (by decide +kernel), List.mem_of_getElem? (i := 1049) (by decide +kernel), List.mem_of_getElem? (i := 1050) (by decide +kernel)⟩
def lw_privs_2 : List (MethodName × Nat) := [(⟨"ViewCards$Ground", "sees", "(II)Z"⟩, 4), (⟨"ViewCards$Reader", "goOn", "()V"⟩, 5), (⟨"ViewCards$Reader", "readLine", "(LViewCards$Lines;)V"⟩, 5), (⟨"ViewCards$Reader", "readWord", "(Ljava/lang/String;)V"⟩, 5), (⟨"ViewCards$Reader", "isAt", "(Ljava/lang/String;)Z"⟩, 5), (⟨"ViewCards$Reader", "findWrong", "()V"⟩, 5), (⟨"ViewCards$Reader", "readNumber", "(II)I"⟩, 5), (⟨"ViewCards$Reader", "numberAt", "()I"⟩, 5), (⟨"ViewCardsModel", "isThere", "(I)Z"⟩, 49), (⟨"ViewCardsModel", "thereMany", "()I"⟩, 49), (⟨"ViewCardsModel", "unlikeOf", "(II)I"⟩, 49), (⟨"ViewCardsModel", "unlikeBy", "(IIII)I"⟩, 49), (⟨"ViewCardsModel", "farOf", "(II)I"⟩, 49), (⟨"ViewCardsModel", "findUnlike", "()V"⟩, 49), (⟨"ViewCardsModel", "isMatch", "(II)Z"⟩, 49), (⟨"ViewCardsModel", "isLike", "(II)Z"⟩, 49)]
theorem lw_r2 : ∀ q ∈ lw_privs_2, lw_okq q := List.forall_mem_cons.mpr ⟨lw_p16, List.forall_mem_cons.mpr ⟨lw_p17, List.forall_mem_cons.mpr ⟨lw_p18, List.forall_mem_cons.mpr ⟨lw_p19, List.forall_mem_cons.mpr ⟨lw_p20, List.forall_mem_cons.mpr ⟨lw_p21, List.forall_mem_cons.mpr ⟨lw_p22, List.forall_mem_cons.mpr ⟨lw_p23, List.forall_mem_cons.mpr ⟨lw_p24, List.forall_mem_cons.mpr ⟨lw_p25, List.forall_mem_cons.mpr ⟨lw_p26, List.forall_mem_cons.mpr ⟨lw_p27, List.forall_mem_cons.mpr ⟨lw_p28, List.forall_mem_cons.mpr ⟨lw_p29, List.forall_mem_cons.mpr ⟨lw_p30, List.forall_mem_cons.mpr ⟨lw_p31, fun _ h => absurd h List.not_mem_nil⟩⟩⟩⟩⟩⟩⟩⟩⟩⟩⟩⟩⟩⟩⟩⟩
theorem lw_p32 : lw_okq (⟨"ViewCardsModel", "findChains", "([IZI)V"⟩, 49) := ⟨⟨by decide +kernel, by decide +kernel⟩, List.mem_of_getElem? (i := 829) (by decide +kernel), List.mem_of_getElem? (i := 1057) (by decide +kernel), List.mem_of_getElem? (i := 1058) (by decide +kernel)⟩
theorem lw_p33 : lw_okq (⟨"ViewCardsModel", "listsOf", "(I)I"⟩, 49) := ⟨⟨by decide +kernel, by decide +kernel⟩, List.mem_of_getElem? (i := 829) (by decide +kernel), List.mem_of_getElem? (i := 1068) (by decide +kernel), List.mem_of_getElem? (i := 1069) (by decide +kernel)⟩
theorem lw_p34 : lw_okq (⟨"ViewCardsModel", "rivalsOf", "(I)I"⟩, 49) := ⟨⟨by decide +kernel, by decide +kernel⟩, List.mem_of_getElem? (i := 829) (by decide +kernel), List.mem_of_getElem? (i := 1072) (by decide +kernel), List.mem_of_getElem? (i := 1073) (by decide +kernel)⟩
theorem lw_p35 : lw_okq (⟨"ViewCardsModel", "priceOf", "(I)I"⟩, 49) := ⟨⟨by decide +kernel, by decide +kernel⟩, List.mem_of_getElem? (i := 829) (by decide +kernel), List.mem_of_getElem? (i := 1076) (by decide +kernel), List.mem_of_getElem? (i := 1077) (by decide +kernel)⟩
theorem lw_p36 : lw_okq (⟨"ViewCardsModel", "isMissing", "(II)Z"⟩, 49) := ⟨⟨by decide +kernel, by decide +kernel⟩, List.mem_of_getElem? (i := 829) (by decide +kernel), List.mem_of_getElem? (i := 1080) (by decide +kernel), List.mem_of_getElem? (i := 1081) (by decide +kernel)⟩
theorem lw_p37 : lw_okq (⟨"ViewCardsModel", "endOf", "(II)I"⟩, 49) := ⟨⟨by decide +kernel, by decide +kernel⟩, List.mem_of_getElem? (i := 829) (by decide +kernel), List.mem_of_getElem? (i := 1084) (by decide +kernel), List.mem_of_getElem? (i := 1085) (by decide +kernel)⟩
theorem lw_p38 : lw_okq (⟨"ViewCardsModel", "hasNumber", "(II)Z"⟩, 49) := ⟨⟨by decide +kernel, by decide +kernel⟩, List.mem_of_getElem? (i := 829) (by decide +kernel), List.mem_of_getElem? (i := 1088) (by decide +kernel), List.mem_of_getElem? (i := 1089) (by decide +kernel)⟩
theorem lw_p39 : lw_okq (⟨"ViewCardsModel", "areSpans", "(IZ)Z"⟩, 49) := ⟨⟨by decide +kernel, by decide +kernel⟩, List.mem_of_getElem? (i := 829) (by decide +kernel), List.mem_of_getElem? (i := 1137) (by decide +kernel), List.mem_of_getElem? (i := 1138) (by decide +kernel)⟩
theorem lw_p40 : lw_okq (⟨"ViewCardsModel", "isEmpty", "(I)Z"⟩, 49) := ⟨⟨by decide +kernel, by decide +kernel⟩, List.mem_of_getElem? (i := 829) (by decide +kernel), List.mem_of_getElem? (i := 1141) (by decide +kernel), List.mem_of_getElem? (i := 1142) (by decide +kernel)⟩
theorem lw_p41 : lw_okq (⟨"ViewCardsModel", "narrow", "(IZ)V"⟩, 49) := ⟨⟨by decide +kernel, by decide +kernel⟩, List.mem_of_getElem? (i := 829) (by decide +kernel), List.mem_of_getElem? (i := 1145) (by decide +kernel), List.mem_of_getElem? (i := 1146) (by decide +kernel)⟩
theorem lw_p42 : lw_okq (⟨"ViewCardsModel", "takenIn", "(III)V"⟩, 49) := ⟨⟨by decide +kernel, by decide +kernel⟩, List.mem_of_getElem? (i := 829) (by decide +kernel), List.mem_of_getElem? (i := 1149) (by decide +kernel), List.mem_of_getElem? (i := 1150) (by decide +kernel)⟩
theorem lw_p43 : lw_okq (⟨"ViewCardsModel", "outIn", "(III)V"⟩, 49) := ⟨⟨by decide +kernel, by decide +kernel⟩, List.mem_of_getElem? (i := 829) (by decide +kernel), List.mem_of_getElem? (i := 1153) (by decide +kernel), List.mem_of_getElem? (i := 1154) (by decide +kernel)⟩
theorem lw_p44 : lw_okq (⟨"ViewCardsModel", "isOf", "(II)Z"⟩, 49) := ⟨⟨by decide +kernel, by decide +kernel⟩, List.mem_of_getElem? (i := 829) (by decide +kernel), List.mem_of_getElem? (i := 1157) (by decide +kernel), List.mem_of_getElem? (i := 1158) (by decide +kernel)⟩
theorem lw_p45 : lw_okq (⟨"ViewCardsModel", "stoodOf", "(I)J"⟩, 49) := ⟨⟨by decide +kernel, by decide +kernel⟩, List.mem_of_getElem? (i := 829) (by decide +kernel), List.mem_of_getElem? (i := 1189) (by decide +kernel), List.mem_of_getElem? (i := 1190) (by decide +kernel)⟩
theorem lw_p46 : lw_okq (⟨"ViewCardsModel", "mayStand", "(II)Z"⟩, 49) := ⟨⟨by decide +kernel, by decide +kernel⟩, List.mem_of_getElem? (i := 829) (by decide +kernel), List.mem_of_getElem? (i := 1193) (by decide +kernel), List.mem_of_getElem? (i := 1194) (by decide +kernel)⟩
theorem lw_p47 : lw_okq (⟨"ViewCardsModel", "isWall", "(I)Z"⟩, 49) := ⟨⟨by decide +kernel, by decide +kernel⟩, List.mem_of_getElem? (i := 829) (by decide +kernel), List.mem_of_getElem? (i := 1197) (by decide +kernel), List.mem_of_getElem? (i := 1198) (by decide +kernel)⟩
def lw_privs_3 : List (MethodName × Nat) := [(⟨"ViewCardsModel", "findChains", "([IZI)V"⟩, 49), (⟨"ViewCardsModel", "listsOf", "(I)I"⟩, 49), (⟨"ViewCardsModel", "rivalsOf", "(I)I"⟩, 49), (⟨"ViewCardsModel", "priceOf", "(I)I"⟩, 49), (⟨"ViewCardsModel", "isMissing", "(II)Z"⟩, 49), (⟨"ViewCardsModel", "endOf", "(II)I"⟩, 49), (⟨"ViewCardsModel", "hasNumber", "(II)Z"⟩, 49), (⟨"ViewCardsModel", "areSpans", "(IZ)Z"⟩, 49), (⟨"ViewCardsModel", "isEmpty", "(I)Z"⟩, 49), (⟨"ViewCardsModel", "narrow", "(IZ)V"⟩, 49), (⟨"ViewCardsModel", "takenIn", "(III)V"⟩, 49), (⟨"ViewCardsModel", "outIn", "(III)V"⟩, 49), (⟨"ViewCardsModel", "isOf", "(II)Z"⟩, 49), (⟨"ViewCardsModel", "stoodOf", "(I)J"⟩, 49), (⟨"ViewCardsModel", "mayStand", "(II)Z"⟩, 49), (⟨"ViewCardsModel", "isWall", "(I)Z"⟩, 49)]
theorem lw_r3 : ∀ q ∈ lw_privs_3, lw_okq q := List.forall_mem_cons.mpr ⟨lw_p32, List.forall_mem_cons.mpr ⟨lw_p33, List.forall_mem_cons.mpr ⟨lw_p34, List.forall_mem_cons.mpr ⟨lw_p35, List.forall_mem_cons.mpr ⟨lw_p36, List.forall_mem_cons.mpr ⟨lw_p37, List.forall_mem_cons.mpr ⟨lw_p38, List.forall_mem_cons.mpr ⟨lw_p39, List.forall_mem_cons.mpr ⟨lw_p40, List.forall_mem_cons.mpr ⟨lw_p41, List.forall_mem_cons.mpr ⟨lw_p42, List.forall_mem_cons.mpr ⟨lw_p43, List.forall_mem_cons.mpr ⟨lw_p44, List.forall_mem_cons.mpr ⟨lw_p45, List.forall_mem_cons.mpr ⟨lw_p46, List.forall_mem_cons.mpr ⟨lw_p47, fun _ h => absurd h List.not_mem_nil⟩⟩⟩⟩⟩⟩⟩⟩⟩⟩⟩⟩⟩⟩⟩⟩
theorem lw_p48 : lw_okq (⟨"ViewCardsModel", "isSeen", "(II)Z"⟩, 49) := ⟨⟨by decide +kernel, by decide +kernel⟩, List.mem_of_getElem? (i := 829) (by decide +kernel), List.mem_of_getElem? (i := 1201) (by decide +kernel), List.mem_of_getElem? (i := 1202) (by decide +kernel)⟩
theorem lw_p49 : lw_okq (⟨"ViewCardsModel", "isOrdered", "(III)Z"⟩, 49) := ⟨⟨by decide +kernel, by decide +kernel⟩, List.mem_of_getElem? (i := 829) (by decide +kernel), List.mem_of_getElem? (i := 1205) (by decide +kernel), List.mem_of_getElem? (i := 1206) (by decide +kernel)⟩
theorem lw_p50 : lw_okq (⟨"ViewCardsModel", "isRead", "()Z"⟩, 49) := ⟨⟨by decide +kernel, by decide +kernel⟩, List.mem_of_getElem? (i := 829) (by decide +kernel), List.mem_of_getElem? (i := 1226) (by decide +kernel), List.mem_of_getElem? (i := 1227) (by decide +kernel)⟩
theorem lw_p51 : lw_okq (⟨"ViewCardsModel", "isLine", "(I)Z"⟩, 49) := ⟨⟨by decide +kernel, by decide +kernel⟩, List.mem_of_getElem? (i := 829) (by decide +kernel), List.mem_of_getElem? (i := 1230) (by decide +kernel), List.mem_of_getElem? (i := 1231) (by decide +kernel)⟩
theorem lw_p52 : lw_okq (⟨"ViewCardsModel", "isWord", "(J)Z"⟩, 49) := ⟨⟨by decide +kernel, by decide +kernel⟩, List.mem_of_getElem? (i := 829) (by decide +kernel), List.mem_of_getElem? (i := 1235) (by decide +kernel), List.mem_of_getElem? (i := 1236) (by decide +kernel)⟩
theorem lw_p53 : lw_okq (⟨"ViewCardsModel", "nextToken", "()V"⟩, 49) := ⟨⟨by decide +kernel, by decide +kernel⟩, List.mem_of_getElem? (i := 829) (by decide +kernel), List.mem_of_getElem? (i := 1239) (by decide +kernel), List.mem_of_getElem? (i := 1240) (by decide +kernel)⟩
theorem lw_p54 : lw_okq (⟨"ViewCardsModel", "fails", "()Z"⟩, 49) := ⟨⟨by decide +kernel, by decide +kernel⟩, List.mem_of_getElem? (i := 829) (by decide +kernel), List.mem_of_getElem? (i := 1248) (by decide +kernel), List.mem_of_getElem? (i := 1249) (by decide +kernel)⟩
theorem lw_p55 : lw_okq (⟨"ViewCardsModel", "isNumber", "(III)Z"⟩, 49) := ⟨⟨by decide +kernel, by decide +kernel⟩, List.mem_of_getElem? (i := 829) (by decide +kernel), List.mem_of_getElem? (i := 1252) (by decide +kernel), List.mem_of_getElem? (i := 1253) (by decide +kernel)⟩
def lw_privs_4 : List (MethodName × Nat) := [(⟨"ViewCardsModel", "isSeen", "(II)Z"⟩, 49), (⟨"ViewCardsModel", "isOrdered", "(III)Z"⟩, 49), (⟨"ViewCardsModel", "isRead", "()Z"⟩, 49), (⟨"ViewCardsModel", "isLine", "(I)Z"⟩, 49), (⟨"ViewCardsModel", "isWord", "(J)Z"⟩, 49), (⟨"ViewCardsModel", "nextToken", "()V"⟩, 49), (⟨"ViewCardsModel", "fails", "()Z"⟩, 49), (⟨"ViewCardsModel", "isNumber", "(III)Z"⟩, 49)]
theorem lw_r4 : ∀ q ∈ lw_privs_4, lw_okq q := List.forall_mem_cons.mpr ⟨lw_p48, List.forall_mem_cons.mpr ⟨lw_p49, List.forall_mem_cons.mpr ⟨lw_p50, List.forall_mem_cons.mpr ⟨lw_p51, List.forall_mem_cons.mpr ⟨lw_p52, List.forall_mem_cons.mpr ⟨lw_p53, List.forall_mem_cons.mpr ⟨lw_p54, List.forall_mem_cons.mpr ⟨lw_p55, fun _ h => absurd h List.not_mem_nil⟩⟩⟩⟩⟩⟩⟩⟩
def lw_privs : List (MethodName × Nat) := lw_privs_1 ++ (lw_privs_2 ++ (lw_privs_3 ++ (lw_privs_4)))
def lw_tbl : List Cond := k2_sels lw_privs ++ tables_1
theorem lw_privs_ok : ∀ q ∈ lw_privs, lw_okq q := by
  show ∀ q ∈ lw_privs_1 ++ (lw_privs_2 ++ (lw_privs_3 ++ (lw_privs_4))), lw_okq q
  exact List.forall_mem_append.mpr ⟨lw_r1, List.forall_mem_append.mpr ⟨lw_r2, List.forall_mem_append.mpr ⟨lw_r3, lw_r4⟩⟩⟩
end
section
def RX0 : String := "ViewCards$Album"
def TX0 : u_T := fun k => match k with
  | 0 => ("ViewCards$Album", "list", "[I", true)
  | 1 => ("ViewCards$Album", "publisher", "[I", true)
  | 2 => ("ViewCards$Album", "number", "[I", true)
  | 3 => ("ViewCards$Album", "backOf", "[I", true)
  | 4 => ("ViewCards$Album", "picture", "[J", true)
  | 5 => ("ViewCards$Album", "sky", "[I", true)
  | 6 => ("ViewCards$Album", "posted", "[I", true)
  | 7 => ("ViewCards$Album", "toldOn", "[I", true)
  | 8 => ("ViewCards$Album", "word", "[J", true)
  | 9 => ("ViewCards$Album", "letters", "[I", true)
  | 10 => ("ViewCards$Album", "size", "I", false)
  | 11 => ("ViewCards$Album", "theDay", "I", false)
  | _ => ("ViewCards$Album", "asOf", "I", false)
def tyX0 : Nat → FieldType := fun k => match k with
  | 0 => .array .int
  | 1 => .array .int
  | 2 => .array .int
  | 3 => .array .int
  | 4 => .array .long
  | 5 => .array .int
  | 6 => .array .int
  | 7 => .array .int
  | 8 => .array .long
  | 9 => .array .int
  | 10 => .int
  | 11 => .int
  | _ => .int
theorem nmX0 : ∀ a, a < 13 → ∀ b, b < 13 → a ≠ b → (TX0 a).2.1 ≠ (TX0 b).2.1 := by decide +kernel
theorem tyX0_ok : ∀ k, k < 13 → parseFieldDescriptor (TX0 k).2.2.1 = some (tyX0 k) := by decide +kernel
abbrev cX0_init : ByteArray := prog_2_method_1_code
def yX0_init : MethodName := ⟨RX0, "<init>", "()V"⟩
abbrev cX0_tell : ByteArray := prog_2_method_2_code
def yX0_tell : MethodName := ⟨RX0, "tell", "(IIIIJII)V"⟩
abbrev cX0_isThere : ByteArray := prog_2_method_3_code
def yX0_isThere : MethodName := ⟨RX0, "isThere", "(I)Z"⟩
abbrev cX0_there : ByteArray := prog_2_method_4_code
def yX0_there : MethodName := ⟨RX0, "there", "()I"⟩
abbrev cX0_listsOf : ByteArray := prog_2_method_5_code
def yX0_listsOf : MethodName := ⟨RX0, "listsOf", "(I)I"⟩
abbrev cX0_publishersOf : ByteArray := prog_2_method_6_code
def yX0_publishersOf : MethodName := ⟨RX0, "publishersOf", "(I)I"⟩
abbrev cX0_valuesOf : ByteArray := prog_2_method_7_code
def yX0_valuesOf : MethodName := ⟨RX0, "valuesOf", "(I[I)I"⟩
def RX1 : String := "ViewCards$Dating"
def TX1 : u_T := fun k => match k with
  | 0 => ("ViewCards$Dating", "album", "LViewCards$Album;", true)
  | 1 => ("ViewCards$Dating", "kin", "LViewCards$Kin;", true)
  | 2 => ("ViewCards$Dating", "featureFrom", "[I", true)
  | 3 => ("ViewCards$Dating", "featureTo", "[I", true)
  | 4 => ("ViewCards$Dating", "backFrom", "[I", true)
  | 5 => ("ViewCards$Dating", "backTo", "[I", true)
  | 6 => ("ViewCards$Dating", "showing", "[[I", true)
  | 7 => ("ViewCards$Dating", "laterOne", "[I", true)
  | 8 => ("ViewCards$Dating", "earlierOne", "[I", true)
  | 9 => ("ViewCards$Dating", "laters", "I", false)
  | 10 => ("ViewCards$Dating", "taken", "LViewCards$Spans;", true)
  | 11 => ("ViewCards$Dating", "published", "LViewCards$Spans;", true)
  | _ => ("ViewCards$Dating", "leader", "[I", true)
def tyX1 : Nat → FieldType := fun k => match k with
  | 0 => .object "ViewCards$Album"
  | 1 => .object "ViewCards$Kin"
  | 2 => .array .int
  | 3 => .array .int
  | 4 => .array .int
  | 5 => .array .int
  | 6 => .array (.array .int)
  | 7 => .array .int
  | 8 => .array .int
  | 9 => .int
  | 10 => .object "ViewCards$Spans"
  | 11 => .object "ViewCards$Spans"
  | _ => .array .int
theorem nmX1 : ∀ a, a < 13 → ∀ b, b < 13 → a ≠ b → (TX1 a).2.1 ≠ (TX1 b).2.1 := by decide +kernel
theorem tyX1_ok : ∀ k, k < 13 → parseFieldDescriptor (TX1 k).2.2.1 = some (tyX1 k) := by decide +kernel
abbrev cX1_init : ByteArray := prog_3_method_1_code
def yX1_init : MethodName := ⟨RX1, "<init>", "(LViewCards$Album;LViewCards$Kin;)V"⟩
abbrev cX1_settle : ByteArray := prog_3_method_2_code
def yX1_settle : MethodName := ⟨RX1, "settle", "(ILViewCards$Lines;)Z"⟩
abbrev cX1_findLeaders : ByteArray := prog_3_method_3_code
def yX1_findLeaders : MethodName := ⟨RX1, "findLeaders", "(I)V"⟩
abbrev cX1_openPublished : ByteArray := prog_3_method_4_code
def yX1_openPublished : MethodName := ⟨RX1, "openPublished", "(ILViewCards$Lines;)V"⟩
abbrev cX1_narrow : ByteArray := prog_3_method_5_code
def yX1_narrow : MethodName := ⟨RX1, "narrow", "(I)Z"⟩
abbrev cX1_narrowByFeatures : ByteArray := prog_3_method_6_code
def yX1_narrowByFeatures : MethodName := ⟨RX1, "narrowByFeatures", "(I)V"⟩
abbrev cX1_isSomeEmpty : ByteArray := prog_3_method_7_code
def yX1_isSomeEmpty : MethodName := ⟨RX1, "isSomeEmpty", "(I)Z"⟩
abbrev cX1_canBePublished : ByteArray := prog_3_method_8_code
def yX1_canBePublished : MethodName := ⟨RX1, "canBePublished", "(III)Z"⟩
def RX2 : String := "ViewCards$Ground"
def TX2 : u_T := fun k => match k with
  | 0 => ("ViewCards$Ground", "cellOf", "[I", true)
  | 1 => ("ViewCards$Ground", "walled", "J", false)
  | 2 => ("ViewCards$Ground", "seen", "[[I", true)
  | _ => ("ViewCards$Ground", "inView", "[I", true)
def tyX2 : Nat → FieldType := fun k => match k with
  | 0 => .array .int
  | 1 => .long
  | 2 => .array (.array .int)
  | _ => .array .int
theorem nmX2 : ∀ a, a < 4 → ∀ b, b < 4 → a ≠ b → (TX2 a).2.1 ≠ (TX2 b).2.1 := by decide +kernel
theorem tyX2_ok : ∀ k, k < 4 → parseFieldDescriptor (TX2 k).2.2.1 = some (tyX2 k) := by decide +kernel
abbrev cX2_init : ByteArray := prog_4_method_1_code
def yX2_init : MethodName := ⟨RX2, "<init>", "()V"⟩
abbrev cX2_isInView : ByteArray := prog_4_method_2_code
def yX2_isInView : MethodName := ⟨RX2, "isInView", "(II)Z"⟩
abbrev cX2_standing : ByteArray := prog_4_method_3_code
def yX2_standing : MethodName := ⟨RX2, "standing", "(I)J"⟩
abbrev cX2_isOrdered : ByteArray := prog_4_method_4_code
def yX2_isOrdered : MethodName := ⟨RX2, "isOrdered", "(II)Z"⟩
abbrev cX2_isLeftOf : ByteArray := prog_4_method_5_code
def yX2_isLeftOf : MethodName := ⟨RX2, "isLeftOf", "(III)Z"⟩
abbrev cX2_seesAll : ByteArray := prog_4_method_6_code
def yX2_seesAll : MethodName := ⟨RX2, "seesAll", "(II)Z"⟩
abbrev cX2_sees : ByteArray := prog_4_method_7_code
def yX2_sees : MethodName := ⟨RX2, "sees", "(II)Z"⟩
def RX3 : String := "ViewCards$Kin"
def TX3 : u_T := fun k => match k with
  | 0 => ("ViewCards$Kin", "album", "LViewCards$Album;", true)
  | 1 => ("ViewCards$Kin", "otherwise", "[[I", true)
  | 2 => ("ViewCards$Kin", "changes", "[[I", true)
  | 3 => ("ViewCards$Kin", "row", "[I", true)
  | _ => ("ViewCards$Kin", "slack", "I", false)
def tyX3 : Nat → FieldType := fun k => match k with
  | 0 => .object "ViewCards$Album"
  | 1 => .array (.array .int)
  | 2 => .array (.array .int)
  | 3 => .array .int
  | _ => .int
theorem nmX3 : ∀ a, a < 5 → ∀ b, b < 5 → a ≠ b → (TX3 a).2.1 ≠ (TX3 b).2.1 := by decide +kernel
theorem tyX3_ok : ∀ k, k < 5 → parseFieldDescriptor (TX3 k).2.2.1 = some (tyX3 k) := by decide +kernel
abbrev cX3_init : ByteArray := prog_5_method_1_code
def yX3_init : MethodName := ⟨RX3, "<init>", "(LViewCards$Album;)V"⟩
abbrev cX3_comparePicture : ByteArray := prog_5_method_2_code
def yX3_comparePicture : MethodName := ⟨RX3, "comparePicture", "(I)V"⟩
abbrev cX3_fewestOtherwise : ByteArray := prog_5_method_3_code
def yX3_fewestOtherwise : MethodName := ⟨RX3, "fewestOtherwise", "(II)I"⟩
abbrev cX3_cellsInBoth : ByteArray := prog_5_method_4_code
def yX3_cellsInBoth : MethodName := ⟨RX3, "cellsInBoth", "(IIII)J"⟩
abbrev cX3_moved : ByteArray := prog_5_method_5_code
def yX3_moved : MethodName := ⟨RX3, "moved", "(JI)J"⟩
abbrev cX3_compareWord : ByteArray := prog_5_method_6_code
def yX3_compareWord : MethodName := ⟨RX3, "compareWord", "(I)V"⟩
abbrev cX3_fewestChanges : ByteArray := prog_5_method_7_code
def yX3_fewestChanges : MethodName := ⟨RX3, "fewestChanges", "(II)I"⟩
abbrev cX3_isLike : ByteArray := prog_5_method_8_code
def yX3_isLike : MethodName := ⟨RX3, "isLike", "(II)Z"⟩
abbrev cX3_isMatch : ByteArray := prog_5_method_9_code
def yX3_isMatch : MethodName := ⟨RX3, "isMatch", "(II)Z"⟩
abbrev cX3_sameNegative : ByteArray := prog_5_method_10_code
def yX3_sameNegative : MethodName := ⟨RX3, "sameNegative", "(II)I"⟩
abbrev cX3_sameCard : ByteArray := prog_5_method_11_code
def yX3_sameCard : MethodName := ⟨RX3, "sameCard", "(II)I"⟩
abbrev cX3_chained : ByteArray := prog_5_method_12_code
def yX3_chained : MethodName := ⟨RX3, "chained", "(IIZ)I"⟩
abbrev cX3_negatives : ByteArray := prog_5_method_13_code
def yX3_negatives : MethodName := ⟨RX3, "negatives", "(I)I"⟩
abbrev cX3_differentCards : ByteArray := prog_5_method_14_code
def yX3_differentCards : MethodName := ⟨RX3, "differentCards", "(I)I"⟩
abbrev cX3_leastOfChains : ByteArray := prog_5_method_15_code
def yX3_leastOfChains : MethodName := ⟨RX3, "leastOfChains", "(IZ)I"⟩
abbrev cX3_rivals : ByteArray := prog_5_method_16_code
def yX3_rivals : MethodName := ⟨RX3, "rivals", "(II)I"⟩
def RX4 : String := "ViewCards$Lines"
def TX4 : u_T := fun k => match k with
  | 0 => ("ViewCards$Lines", "publisher", "[I", true)
  | 1 => ("ViewCards$Lines", "first", "[I", true)
  | 2 => ("ViewCards$Lines", "last", "[I", true)
  | 3 => ("ViewCards$Lines", "isOfDays", "[Z", true)
  | 4 => ("ViewCards$Lines", "low", "[I", true)
  | 5 => ("ViewCards$Lines", "high", "[I", true)
  | _ => ("ViewCards$Lines", "size", "I", false)
def tyX4 : Nat → FieldType := fun k => match k with
  | 0 => .array .int
  | 1 => .array .int
  | 2 => .array .int
  | 3 => .array .boolean
  | 4 => .array .int
  | 5 => .array .int
  | _ => .int
theorem nmX4 : ∀ a, a < 7 → ∀ b, b < 7 → a ≠ b → (TX4 a).2.1 ≠ (TX4 b).2.1 := by decide +kernel
theorem tyX4_ok : ∀ k, k < 7 → parseFieldDescriptor (TX4 k).2.2.1 = some (tyX4 k) := by decide +kernel
abbrev cX4_init : ByteArray := prog_6_method_1_code
def yX4_init : MethodName := ⟨RX4, "<init>", "()V"⟩
abbrev cX4_isFor : ByteArray := prog_6_method_2_code
def yX4_isFor : MethodName := ⟨RX4, "isFor", "(III)Z"⟩
def RX5 : String := "ViewCards$Numbers"
def TX5 : u_T := fun k => match k with
  | 0 => ("ViewCards$Numbers", "album", "LViewCards$Album;", true)
  | 1 => ("ViewCards$Numbers", "isBorne", "[Z", true)
  | 2 => ("ViewCards$Numbers", "size", "I", false)
  | 3 => ("ViewCards$Numbers", "least", "I", false)
  | _ => ("ViewCards$Numbers", "greatest", "I", false)
def tyX5 : Nat → FieldType := fun k => match k with
  | 0 => .object "ViewCards$Album"
  | 1 => .array .boolean
  | 2 => .int
  | 3 => .int
  | _ => .int
theorem nmX5 : ∀ a, a < 5 → ∀ b, b < 5 → a ≠ b → (TX5 a).2.1 ≠ (TX5 b).2.1 := by decide +kernel
theorem tyX5_ok : ∀ k, k < 5 → parseFieldDescriptor (TX5 k).2.2.1 = some (tyX5 k) := by decide +kernel
abbrev cX5_init : ByteArray := prog_7_method_1_code
def yX5_init : MethodName := ⟨RX5, "<init>", "(LViewCards$Album;)V"⟩
abbrev cX5_gather : ByteArray := prog_7_method_2_code
def yX5_gather : MethodName := ⟨RX5, "gather", "(I)V"⟩
abbrev cX5_isMissing : ByteArray := prog_7_method_3_code
def yX5_isMissing : MethodName := ⟨RX5, "isMissing", "(I)Z"⟩
abbrev cX5_isByGap : ByteArray := prog_7_method_4_code
def yX5_isByGap : MethodName := ⟨RX5, "isByGap", "(I)Z"⟩
abbrev cX5_missing : ByteArray := prog_7_method_5_code
def yX5_missing : MethodName := ⟨RX5, "missing", "()I"⟩
abbrev cX5_gaps : ByteArray := prog_7_method_6_code
def yX5_gaps : MethodName := ⟨RX5, "gaps", "()I"⟩
abbrev cX5_gapAt : ByteArray := prog_7_method_7_code
def yX5_gapAt : MethodName := ⟨RX5, "gapAt", "(I)I"⟩
def RX6 : String := "ViewCards$Reader"
def TX6 : u_T := fun k => match k with
  | 0 => ("ViewCards$Reader", "text", "[I", true)
  | 1 => ("ViewCards$Reader", "size", "I", false)
  | 2 => ("ViewCards$Reader", "start", "I", false)
  | 3 => ("ViewCards$Reader", "end", "I", false)
  | _ => ("ViewCards$Reader", "wrongAt", "I", false)
def tyX6 : Nat → FieldType := fun k => match k with
  | 0 => .array .int
  | 1 => .int
  | 2 => .int
  | 3 => .int
  | _ => .int
theorem nmX6 : ∀ a, a < 5 → ∀ b, b < 5 → a ≠ b → (TX6 a).2.1 ≠ (TX6 b).2.1 := by decide +kernel
theorem tyX6_ok : ∀ k, k < 5 → parseFieldDescriptor (TX6 k).2.2.1 = some (tyX6 k) := by decide +kernel
abbrev cX6_init : ByteArray := prog_8_method_1_code
def yX6_init : MethodName := ⟨RX6, "<init>", "()V"⟩
abbrev cX6_read : ByteArray := prog_8_method_2_code
def yX6_read : MethodName := ⟨RX6, "read", "(LViewCards$Lines;)I"⟩
abbrev cX6_readLine : ByteArray := prog_8_method_3_code
def yX6_readLine : MethodName := ⟨RX6, "readLine", "(LViewCards$Lines;)V"⟩
abbrev cX6_findWrong : ByteArray := prog_8_method_4_code
def yX6_findWrong : MethodName := ⟨RX6, "findWrong", "()V"⟩
abbrev cX6_readWord : ByteArray := prog_8_method_5_code
def yX6_readWord : MethodName := ⟨RX6, "readWord", "(Ljava/lang/String;)V"⟩
abbrev cX6_readNumber : ByteArray := prog_8_method_6_code
def yX6_readNumber : MethodName := ⟨RX6, "readNumber", "(II)I"⟩
abbrev cX6_isAt : ByteArray := prog_8_method_7_code
def yX6_isAt : MethodName := ⟨RX6, "isAt", "(Ljava/lang/String;)Z"⟩
abbrev cX6_numberAt : ByteArray := prog_8_method_8_code
def yX6_numberAt : MethodName := ⟨RX6, "numberAt", "()I"⟩
abbrev cX6_goOn : ByteArray := prog_8_method_9_code
def yX6_goOn : MethodName := ⟨RX6, "goOn", "()V"⟩
abbrev cX6_isOneRow : ByteArray := prog_8_method_10_code
def yX6_isOneRow : MethodName := ⟨RX6, "isOneRow", "(II)Z"⟩
def RX7 : String := "ViewCards$Spans"
def TX7 : u_T := fun k => match k with
  | 0 => ("ViewCards$Spans", "from", "[I", true)
  | 1 => ("ViewCards$Spans", "to", "[I", true)
  | _ => ("ViewCards$Spans", "isChanged", "Z", false)
def tyX7 : Nat → FieldType := fun k => match k with
  | 0 => .array .int
  | 1 => .array .int
  | _ => .boolean
theorem nmX7 : ∀ a, a < 3 → ∀ b, b < 3 → a ≠ b → (TX7 a).2.1 ≠ (TX7 b).2.1 := by decide +kernel
theorem tyX7_ok : ∀ k, k < 3 → parseFieldDescriptor (TX7 k).2.2.1 = some (tyX7 k) := by decide +kernel
abbrev cX7_init : ByteArray := prog_9_method_1_code
def yX7_init : MethodName := ⟨RX7, "<init>", "()V"⟩
abbrev cX7_open : ByteArray := prog_9_method_2_code
def yX7_open : MethodName := ⟨RX7, "open", "(III)V"⟩
abbrev cX7_notBefore : ByteArray := prog_9_method_3_code
def yX7_notBefore : MethodName := ⟨RX7, "notBefore", "(II)V"⟩
abbrev cX7_notBehind : ByteArray := prog_9_method_4_code
def yX7_notBehind : MethodName := ⟨RX7, "notBehind", "(II)V"⟩
def RX8 : String := "ViewCards"
def TX8 : u_T := fun k => match k with
  | 0 => ("ViewCards", "album", "LViewCards$Album;", true)
  | 1 => ("ViewCards", "kin", "LViewCards$Kin;", true)
  | 2 => ("ViewCards", "numbers", "LViewCards$Numbers;", true)
  | 3 => ("ViewCards", "dating", "LViewCards$Dating;", true)
  | 4 => ("ViewCards", "ground", "LViewCards$Ground;", true)
  | 5 => ("ViewCards", "reader", "LViewCards$Reader;", true)
  | 6 => ("ViewCards", "noLines", "LViewCards$Lines;", true)
  | 7 => ("ViewCards", "lines", "LViewCards$Lines;", false)
  | 8 => ("ViewCards", "draft", "LViewCards$Lines;", false)
  | _ => ("ViewCards", "base", "I", false)
def tyX8 : Nat → FieldType := fun k => match k with
  | 0 => .object "ViewCards$Album"
  | 1 => .object "ViewCards$Kin"
  | 2 => .object "ViewCards$Numbers"
  | 3 => .object "ViewCards$Dating"
  | 4 => .object "ViewCards$Ground"
  | 5 => .object "ViewCards$Reader"
  | 6 => .object "ViewCards$Lines"
  | 7 => .object "ViewCards$Lines"
  | 8 => .object "ViewCards$Lines"
  | _ => .int
theorem nmX8 : ∀ a, a < 10 → ∀ b, b < 10 → a ≠ b → (TX8 a).2.1 ≠ (TX8 b).2.1 := by decide +kernel
theorem tyX8_ok : ∀ k, k < 10 → parseFieldDescriptor (TX8 k).2.2.1 = some (tyX8 k) := by decide +kernel
abbrev cX8_init : ByteArray := prog_1_method_1_code
def yX8_init : MethodName := ⟨RX8, "<init>", "()V"⟩
abbrev cX8_card : ByteArray := prog_1_method_2_code
def yX8_card : MethodName := ⟨RX8, "card", "(IIIIJII)I"⟩
abbrev cX8_caption : ByteArray := prog_1_method_3_code
def yX8_caption : MethodName := ⟨RX8, "caption", "(IJI)I"⟩
abbrev cX8_days : ByteArray := prog_1_method_4_code
def yX8_days : MethodName := ⟨RX8, "days", "(I)I"⟩
abbrev cX8_set : ByteArray := prog_1_method_5_code
def yX8_set : MethodName := ⟨RX8, "set", "(II)I"⟩
abbrev cX8_difference : ByteArray := prog_1_method_6_code
def yX8_difference : MethodName := ⟨RX8, "difference", "(II)I"⟩
abbrev cX8_negative : ByteArray := prog_1_method_7_code
def yX8_negative : MethodName := ⟨RX8, "negative", "(I)I"⟩
abbrev cX8_far : ByteArray := prog_1_method_8_code
def yX8_far : MethodName := ⟨RX8, "far", "(II)I"⟩
abbrev cX8_match : ByteArray := prog_1_method_9_code
def yX8_match : MethodName := ⟨RX8, "match", "(II)I"⟩
abbrev cX8_of : ByteArray := prog_1_method_10_code
def yX8_of : MethodName := ⟨RX8, "of", "(II)I"⟩
abbrev cX8_timesSeen : ByteArray := prog_1_method_11_code
def yX8_timesSeen : MethodName := ⟨RX8, "timesSeen", "(I)I"⟩
abbrev cX8_priceOf : ByteArray := prog_1_method_12_code
def yX8_priceOf : MethodName := ⟨RX8, "priceOf", "(I)I"⟩
abbrev cX8_series : ByteArray := prog_1_method_13_code
def yX8_series : MethodName := ⟨RX8, "series", "(II)I"⟩
abbrev cX8_gap : ByteArray := prog_1_method_14_code
def yX8_gap : MethodName := ⟨RX8, "gap", "(II)I"⟩
abbrev cX8_unseen : ByteArray := prog_1_method_15_code
def yX8_unseen : MethodName := ⟨RX8, "unseen", "(I)I"⟩
abbrev cX8_cardsSeen : ByteArray := prog_1_method_16_code
def yX8_cardsSeen : MethodName := ⟨RX8, "cardsSeen", "(I)I"⟩
abbrev cX8_overlap : ByteArray := prog_1_method_17_code
def yX8_overlap : MethodName := ⟨RX8, "overlap", "(III)I"⟩
abbrev cX8_cardsInBoth : ByteArray := prog_1_method_18_code
def yX8_cardsInBoth : MethodName := ⟨RX8, "cardsInBoth", "(II)I"⟩
abbrev cX8_feature : ByteArray := prog_1_method_19_code
def yX8_feature : MethodName := ⟨RX8, "feature", "(III)I"⟩
abbrev cX8_shows : ByteArray := prog_1_method_20_code
def yX8_shows : MethodName := ⟨RX8, "shows", "(III)I"⟩
abbrev cX8_back : ByteArray := prog_1_method_21_code
def yX8_back : MethodName := ⟨RX8, "back", "(III)I"⟩
abbrev cX8_later : ByteArray := prog_1_method_22_code
def yX8_later : MethodName := ⟨RX8, "later", "(II)I"⟩
abbrev cX8_span : ByteArray := prog_1_method_23_code
def yX8_span : MethodName := ⟨RX8, "span", "(III)I"⟩
abbrev cX8_quarrel : ByteArray := prog_1_method_24_code
def yX8_quarrel : MethodName := ⟨RX8, "quarrel", "()I"⟩
abbrev cX8_culprit : ByteArray := prog_1_method_25_code
def yX8_culprit : MethodName := ⟨RX8, "culprit", "()I"⟩
abbrev cX8_landmark : ByteArray := prog_1_method_26_code
def yX8_landmark : MethodName := ⟨RX8, "landmark", "(II)I"⟩
abbrev cX8_walls : ByteArray := prog_1_method_27_code
def yX8_walls : MethodName := ⟨RX8, "walls", "(J)I"⟩
abbrev cX8_view : ByteArray := prog_1_method_28_code
def yX8_view : MethodName := ⟨RX8, "view", "(II)I"⟩
abbrev cX8_unview : ByteArray := prog_1_method_29_code
def yX8_unview : MethodName := ⟨RX8, "unview", "(I)I"⟩
abbrev cX8_stood : ByteArray := prog_1_method_30_code
def yX8_stood : MethodName := ⟨RX8, "stood", "(I)J"⟩
abbrev cX8_together : ByteArray := prog_1_method_31_code
def yX8_together : MethodName := ⟨RX8, "together", "(I)I"⟩
abbrev cX8_write : ByteArray := prog_1_method_32_code
def yX8_write : MethodName := ⟨RX8, "write", "(JI)I"⟩
abbrev cX8_erase : ByteArray := prog_1_method_33_code
def yX8_erase : MethodName := ⟨RX8, "erase", "()I"⟩
abbrev cX8_fault : ByteArray := prog_1_method_34_code
def yX8_fault : MethodName := ⟨RX8, "fault", "()I"⟩
abbrev cX8_catalogue : ByteArray := prog_1_method_35_code
def yX8_catalogue : MethodName := ⟨RX8, "catalogue", "()I"⟩
abbrev cX8_breaks : ByteArray := prog_1_method_36_code
def yX8_breaks : MethodName := ⟨RX8, "breaks", "(I)I"⟩
abbrev cX8_count : ByteArray := prog_1_method_37_code
def yX8_count : MethodName := ⟨RX8, "count", "(I)I"⟩
abbrev cX8_areTwoThere : ByteArray := prog_1_method_38_code
def yX8_areTwoThere : MethodName := ⟨RX8, "areTwoThere", "(II)Z"⟩
abbrev cX8_isSpan : ByteArray := prog_1_method_39_code
def yX8_isSpan : MethodName := ⟨RX8, "isSpan", "(II)Z"⟩
abbrev cX8_isWithin : ByteArray := prog_1_method_40_code
def yX8_isWithin : MethodName := ⟨RX8, "isWithin", "(III)Z"⟩
abbrev cX8_has : ByteArray := prog_1_method_41_code
def yX8_has : MethodName := ⟨RX8, "has", "(II)Z"⟩
abbrev cX8_lowest : ByteArray := prog_1_method_42_code
def yX8_lowest : MethodName := ⟨RX8, "lowest", "(I)I"⟩
abbrev cX8_byteOf : ByteArray := prog_1_method_43_code
def yX8_byteOf : MethodName := ⟨RX8, "byteOf", "(JI)I"⟩
abbrev cX8_isLetter : ByteArray := prog_1_method_44_code
def yX8_isLetter : MethodName := ⟨RX8, "isLetter", "(I)Z"⟩
abbrev cX8_isDigit : ByteArray := prog_1_method_45_code
def yX8_isDigit : MethodName := ⟨RX8, "isDigit", "(I)Z"⟩
abbrev cX8_commonDivisor : ByteArray := prog_1_method_46_code
def yX8_commonDivisor : MethodName := ⟨RX8, "commonDivisor", "(II)I"⟩
def RX9 : String := "ViewCardsModel"
def TX9 : u_T := fun k => match k with
  | 0 => ("ViewCardsModel", "cards", "I", false)
  | 1 => ("ViewCardsModel", "listOf", "[I", true)
  | 2 => ("ViewCardsModel", "publisher", "[I", true)
  | 3 => ("ViewCardsModel", "numberOf", "[I", true)
  | 4 => ("ViewCardsModel", "backOf", "[I", true)
  | 5 => ("ViewCardsModel", "picture", "[J", true)
  | 6 => ("ViewCardsModel", "sky", "[I", true)
  | 7 => ("ViewCardsModel", "posted", "[I", true)
  | 8 => ("ViewCardsModel", "toldOn", "[I", true)
  | 9 => ("ViewCardsModel", "letters", "[I", true)
  | 10 => ("ViewCardsModel", "caption", "[I", true)
  | 11 => ("ViewCardsModel", "day", "I", false)
  | 12 => ("ViewCardsModel", "slack", "I", false)
  | 13 => ("ViewCardsModel", "asOf", "I", false)
  | 14 => ("ViewCardsModel", "base", "I", false)
  | 15 => ("ViewCardsModel", "unlike", "[I", true)
  | 16 => ("ViewCardsModel", "negatives", "[I", true)
  | 17 => ("ViewCardsModel", "ones", "[I", true)
  | 18 => ("ViewCardsModel", "row", "[I", true)
  | 19 => ("ViewCardsModel", "rowNext", "[I", true)
  | 20 => ("ViewCardsModel", "featureFrom", "[I", true)
  | 21 => ("ViewCardsModel", "featureTo", "[I", true)
  | 22 => ("ViewCardsModel", "shown", "[I", true)
  | 23 => ("ViewCardsModel", "backFrom", "[I", true)
  | 24 => ("ViewCardsModel", "backTo", "[I", true)
  | 25 => ("ViewCardsModel", "laters", "I", false)
  | 26 => ("ViewCardsModel", "laterA", "[I", true)
  | 27 => ("ViewCardsModel", "laterB", "[I", true)
  | 28 => ("ViewCardsModel", "takenFrom", "[I", true)
  | 29 => ("ViewCardsModel", "takenTo", "[I", true)
  | 30 => ("ViewCardsModel", "outFrom", "[I", true)
  | 31 => ("ViewCardsModel", "outTo", "[I", true)
  | 32 => ("ViewCardsModel", "isNarrowed", "Z", false)
  | 33 => ("ViewCardsModel", "landmarks", "[I", true)
  | 34 => ("ViewCardsModel", "walls", "J", false)
  | 35 => ("ViewCardsModel", "views", "[I", true)
  | 36 => ("ViewCardsModel", "view", "[I", true)
  | 37 => ("ViewCardsModel", "bytes", "I", false)
  | 38 => ("ViewCardsModel", "text", "[I", true)
  | 39 => ("ViewCardsModel", "position", "I", false)
  | 40 => ("ViewCardsModel", "tokenAt", "I", false)
  | 41 => ("ViewCardsModel", "token", "J", false)
  | 42 => ("ViewCardsModel", "digits", "I", false)
  | 43 => ("ViewCardsModel", "number", "I", false)
  | 44 => ("ViewCardsModel", "faultAt", "I", false)
  | 45 => ("ViewCardsModel", "readMany", "I", false)
  | 46 => ("ViewCardsModel", "read", "[I", true)
  | 47 => ("ViewCardsModel", "lines", "I", false)
  | _ => ("ViewCardsModel", "line", "[I", true)
def tyX9 : Nat → FieldType := fun k => match k with
  | 0 => .int
  | 1 => .array .int
  | 2 => .array .int
  | 3 => .array .int
  | 4 => .array .int
  | 5 => .array .long
  | 6 => .array .int
  | 7 => .array .int
  | 8 => .array .int
  | 9 => .array .int
  | 10 => .array .int
  | 11 => .int
  | 12 => .int
  | 13 => .int
  | 14 => .int
  | 15 => .array .int
  | 16 => .array .int
  | 17 => .array .int
  | 18 => .array .int
  | 19 => .array .int
  | 20 => .array .int
  | 21 => .array .int
  | 22 => .array .int
  | 23 => .array .int
  | 24 => .array .int
  | 25 => .int
  | 26 => .array .int
  | 27 => .array .int
  | 28 => .array .int
  | 29 => .array .int
  | 30 => .array .int
  | 31 => .array .int
  | 32 => .boolean
  | 33 => .array .int
  | 34 => .long
  | 35 => .array .int
  | 36 => .array .int
  | 37 => .int
  | 38 => .array .int
  | 39 => .int
  | 40 => .int
  | 41 => .long
  | 42 => .int
  | 43 => .int
  | 44 => .int
  | 45 => .int
  | 46 => .array .int
  | 47 => .int
  | _ => .array .int
theorem nmX9 : ∀ a, a < 49 → ∀ b, b < 49 → a ≠ b → (TX9 a).2.1 ≠ (TX9 b).2.1 := by decide +kernel
theorem tyX9_ok : ∀ k, k < 49 → parseFieldDescriptor (TX9 k).2.2.1 = some (tyX9 k) := by decide +kernel
abbrev cX9_init : ByteArray := prog_11_method_1_code
def yX9_init : MethodName := ⟨RX9, "<init>", "()V"⟩
abbrev cX9_in : ByteArray := prog_11_method_2_code
def yX9_in : MethodName := ⟨RX9, "in", "(III)Z"⟩
abbrev cX9_thereMany : ByteArray := prog_11_method_3_code
def yX9_thereMany : MethodName := ⟨RX9, "thereMany", "()I"⟩
abbrev cX9_isThere : ByteArray := prog_11_method_4_code
def yX9_isThere : MethodName := ⟨RX9, "isThere", "(I)Z"⟩
abbrev cX9_isPublisher : ByteArray := prog_11_method_5_code
def yX9_isPublisher : MethodName := ⟨RX9, "isPublisher", "(I)Z"⟩
abbrev cX9_isDay : ByteArray := prog_11_method_6_code
def yX9_isDay : MethodName := ⟨RX9, "isDay", "(I)Z"⟩
abbrev cX9_card : ByteArray := prog_11_method_7_code
def yX9_card : MethodName := ⟨RX9, "card", "(IIIIJII)I"⟩
abbrev cX9_caption : ByteArray := prog_11_method_8_code
def yX9_caption : MethodName := ⟨RX9, "caption", "(IJI)I"⟩
abbrev cX9_days : ByteArray := prog_11_method_9_code
def yX9_days : MethodName := ⟨RX9, "days", "(I)I"⟩
abbrev cX9_set : ByteArray := prog_11_method_10_code
def yX9_set : MethodName := ⟨RX9, "set", "(II)I"⟩
abbrev cX9_bit : ByteArray := prog_11_method_11_code
def yX9_bit : MethodName := ⟨RX9, "bit", "(JII)I"⟩
abbrev cX9_unlikeBy : ByteArray := prog_11_method_12_code
def yX9_unlikeBy : MethodName := ⟨RX9, "unlikeBy", "(IIII)I"⟩
abbrev cX9_unlikeOf : ByteArray := prog_11_method_13_code
def yX9_unlikeOf : MethodName := ⟨RX9, "unlikeOf", "(II)I"⟩
abbrev cX9_difference : ByteArray := prog_11_method_14_code
def yX9_difference : MethodName := ⟨RX9, "difference", "(II)I"⟩
abbrev cX9_isLike : ByteArray := prog_11_method_15_code
def yX9_isLike : MethodName := ⟨RX9, "isLike", "(II)Z"⟩
abbrev cX9_farOf : ByteArray := prog_11_method_16_code
def yX9_farOf : MethodName := ⟨RX9, "farOf", "(II)I"⟩
abbrev cX9_far : ByteArray := prog_11_method_17_code
def yX9_far : MethodName := ⟨RX9, "far", "(II)I"⟩
abbrev cX9_isMatch : ByteArray := prog_11_method_18_code
def yX9_isMatch : MethodName := ⟨RX9, "isMatch", "(II)Z"⟩
abbrev cX9_findUnlike : ByteArray := prog_11_method_19_code
def yX9_findUnlike : MethodName := ⟨RX9, "findUnlike", "()V"⟩
abbrev cX9_findChains : ByteArray := prog_11_method_20_code
def yX9_findChains : MethodName := ⟨RX9, "findChains", "([IZI)V"⟩
abbrev cX9_match : ByteArray := prog_11_method_21_code
def yX9_match : MethodName := ⟨RX9, "match", "(II)I"⟩
abbrev cX9_negative : ByteArray := prog_11_method_22_code
def yX9_negative : MethodName := ⟨RX9, "negative", "(I)I"⟩
abbrev cX9_bits : ByteArray := prog_11_method_23_code
def yX9_bits : MethodName := ⟨RX9, "bits", "(I)I"⟩
abbrev cX9_listsOf : ByteArray := prog_11_method_24_code
def yX9_listsOf : MethodName := ⟨RX9, "listsOf", "(I)I"⟩
abbrev cX9_rivalsOf : ByteArray := prog_11_method_25_code
def yX9_rivalsOf : MethodName := ⟨RX9, "rivalsOf", "(I)I"⟩
abbrev cX9_priceOf : ByteArray := prog_11_method_26_code
def yX9_priceOf : MethodName := ⟨RX9, "priceOf", "(I)I"⟩
abbrev cX9_of : ByteArray := prog_11_method_27_code
def yX9_of : MethodName := ⟨RX9, "of", "(II)I"⟩
abbrev cX9_hasNumber : ByteArray := prog_11_method_28_code
def yX9_hasNumber : MethodName := ⟨RX9, "hasNumber", "(II)Z"⟩
abbrev cX9_endOf : ByteArray := prog_11_method_29_code
def yX9_endOf : MethodName := ⟨RX9, "endOf", "(II)I"⟩
abbrev cX9_isMissing : ByteArray := prog_11_method_30_code
def yX9_isMissing : MethodName := ⟨RX9, "isMissing", "(II)Z"⟩
abbrev cX9_series : ByteArray := prog_11_method_31_code
def yX9_series : MethodName := ⟨RX9, "series", "(II)I"⟩
abbrev cX9_gap : ByteArray := prog_11_method_32_code
def yX9_gap : MethodName := ⟨RX9, "gap", "(II)I"⟩
abbrev cX9_common : ByteArray := prog_11_method_33_code
def yX9_common : MethodName := ⟨RX9, "common", "(II)I"⟩
abbrev cX9_lowest : ByteArray := prog_11_method_34_code
def yX9_lowest : MethodName := ⟨RX9, "lowest", "(IIZ)I"⟩
abbrev cX9_unseen : ByteArray := prog_11_method_35_code
def yX9_unseen : MethodName := ⟨RX9, "unseen", "(I)I"⟩
abbrev cX9_overlap : ByteArray := prog_11_method_36_code
def yX9_overlap : MethodName := ⟨RX9, "overlap", "(III)I"⟩
abbrev cX9_feature : ByteArray := prog_11_method_37_code
def yX9_feature : MethodName := ⟨RX9, "feature", "(III)I"⟩
abbrev cX9_shows : ByteArray := prog_11_method_38_code
def yX9_shows : MethodName := ⟨RX9, "shows", "(III)I"⟩
abbrev cX9_back : ByteArray := prog_11_method_39_code
def yX9_back : MethodName := ⟨RX9, "back", "(III)I"⟩
abbrev cX9_later : ByteArray := prog_11_method_40_code
def yX9_later : MethodName := ⟨RX9, "later", "(II)I"⟩
abbrev cX9_takenIn : ByteArray := prog_11_method_41_code
def yX9_takenIn : MethodName := ⟨RX9, "takenIn", "(III)V"⟩
abbrev cX9_outIn : ByteArray := prog_11_method_42_code
def yX9_outIn : MethodName := ⟨RX9, "outIn", "(III)V"⟩
abbrev cX9_isOf : ByteArray := prog_11_method_43_code
def yX9_isOf : MethodName := ⟨RX9, "isOf", "(II)Z"⟩
abbrev cX9_narrow : ByteArray := prog_11_method_44_code
def yX9_narrow : MethodName := ⟨RX9, "narrow", "(IZ)V"⟩
abbrev cX9_isEmpty : ByteArray := prog_11_method_45_code
def yX9_isEmpty : MethodName := ⟨RX9, "isEmpty", "(I)Z"⟩
abbrev cX9_areSpans : ByteArray := prog_11_method_46_code
def yX9_areSpans : MethodName := ⟨RX9, "areSpans", "(IZ)Z"⟩
abbrev cX9_span : ByteArray := prog_11_method_47_code
def yX9_span : MethodName := ⟨RX9, "span", "(III)I"⟩
abbrev cX9_quarrel : ByteArray := prog_11_method_48_code
def yX9_quarrel : MethodName := ⟨RX9, "quarrel", "()I"⟩
abbrev cX9_culprit : ByteArray := prog_11_method_49_code
def yX9_culprit : MethodName := ⟨RX9, "culprit", "()I"⟩
abbrev cX9_landmark : ByteArray := prog_11_method_50_code
def yX9_landmark : MethodName := ⟨RX9, "landmark", "(II)I"⟩
abbrev cX9_walls : ByteArray := prog_11_method_51_code
def yX9_walls : MethodName := ⟨RX9, "walls", "(J)I"⟩
abbrev cX9_view : ByteArray := prog_11_method_52_code
def yX9_view : MethodName := ⟨RX9, "view", "(II)I"⟩
abbrev cX9_unview : ByteArray := prog_11_method_53_code
def yX9_unview : MethodName := ⟨RX9, "unview", "(I)I"⟩
abbrev cX9_isWall : ByteArray := prog_11_method_54_code
def yX9_isWall : MethodName := ⟨RX9, "isWall", "(I)Z"⟩
abbrev cX9_isSeen : ByteArray := prog_11_method_55_code
def yX9_isSeen : MethodName := ⟨RX9, "isSeen", "(II)Z"⟩
abbrev cX9_isOrdered : ByteArray := prog_11_method_56_code
def yX9_isOrdered : MethodName := ⟨RX9, "isOrdered", "(III)Z"⟩
abbrev cX9_mayStand : ByteArray := prog_11_method_57_code
def yX9_mayStand : MethodName := ⟨RX9, "mayStand", "(II)Z"⟩
abbrev cX9_stoodOf : ByteArray := prog_11_method_58_code
def yX9_stoodOf : MethodName := ⟨RX9, "stoodOf", "(I)J"⟩
abbrev cX9_stood : ByteArray := prog_11_method_59_code
def yX9_stood : MethodName := ⟨RX9, "stood", "(I)J"⟩
abbrev cX9_together : ByteArray := prog_11_method_60_code
def yX9_together : MethodName := ⟨RX9, "together", "(I)I"⟩
abbrev cX9_write : ByteArray := prog_11_method_61_code
def yX9_write : MethodName := ⟨RX9, "write", "(JI)I"⟩
abbrev cX9_erase : ByteArray := prog_11_method_62_code
def yX9_erase : MethodName := ⟨RX9, "erase", "()I"⟩
abbrev cX9_nextToken : ByteArray := prog_11_method_63_code
def yX9_nextToken : MethodName := ⟨RX9, "nextToken", "()V"⟩
abbrev cX9_fails : ByteArray := prog_11_method_64_code
def yX9_fails : MethodName := ⟨RX9, "fails", "()Z"⟩
abbrev cX9_isWord : ByteArray := prog_11_method_65_code
def yX9_isWord : MethodName := ⟨RX9, "isWord", "(J)Z"⟩
abbrev cX9_isNumber : ByteArray := prog_11_method_66_code
def yX9_isNumber : MethodName := ⟨RX9, "isNumber", "(III)Z"⟩
abbrev cX9_isLine : ByteArray := prog_11_method_67_code
def yX9_isLine : MethodName := ⟨RX9, "isLine", "(I)Z"⟩
abbrev cX9_isRead : ByteArray := prog_11_method_68_code
def yX9_isRead : MethodName := ⟨RX9, "isRead", "()Z"⟩
abbrev cX9_fault : ByteArray := prog_11_method_69_code
def yX9_fault : MethodName := ⟨RX9, "fault", "()I"⟩
abbrev cX9_catalogue : ByteArray := prog_11_method_70_code
def yX9_catalogue : MethodName := ⟨RX9, "catalogue", "()I"⟩
abbrev cX9_breaks : ByteArray := prog_11_method_71_code
def yX9_breaks : MethodName := ⟨RX9, "breaks", "(I)I"⟩
abbrev cX9_count : ByteArray := prog_11_method_72_code
def yX9_count : MethodName := ⟨RX9, "count", "(I)I"⟩
def RJ6 : String := "java/lang/Integer"
def TJ6 : u_T := fun k => match k with
  | _ => ("", "", "", false)
def tyJ6 : Nat → FieldType := fun k => match k with
  | _ => .int
theorem nmJ6 : ∀ a, a < 0 → ∀ b, b < 0 → a ≠ b → (TJ6 a).2.1 ≠ (TJ6 b).2.1 := by decide +kernel
theorem tyJ6_ok : ∀ k, k < 0 → parseFieldDescriptor (TJ6 k).2.2.1 = some (tyJ6 k) := by decide +kernel
abbrev cJ6_bitCount_0f7a4 : ByteArray := prog_12_method_49_code
def yJ6_bitCount_0f7a4 : MethodName := ⟨RJ6, "bitCount", "(I)I"⟩
def RJ13 : String := "java/lang/Long"
def TJ13 : u_T := fun k => match k with
  | _ => ("", "", "", false)
def tyJ13 : Nat → FieldType := fun k => match k with
  | _ => .int
theorem nmJ13 : ∀ a, a < 0 → ∀ b, b < 0 → a ≠ b → (TJ13 a).2.1 ≠ (TJ13 b).2.1 := by decide +kernel
theorem tyJ13_ok : ∀ k, k < 0 → parseFieldDescriptor (TJ13 k).2.2.1 = some (tyJ13 k) := by decide +kernel
abbrev cJ13_bitCount_95d88 : ByteArray := prog_13_method_50_code
def yJ13_bitCount_95d88 : MethodName := ⟨RJ13, "bitCount", "(J)I"⟩
def RJ9 : String := "java/lang/Math"
def TJ9 : u_T := fun k => match k with
  | _ => ("", "", "", false)
def tyJ9 : Nat → FieldType := fun k => match k with
  | _ => .int
theorem nmJ9 : ∀ a, a < 0 → ∀ b, b < 0 → a ≠ b → (TJ9 a).2.1 ≠ (TJ9 b).2.1 := by decide +kernel
theorem tyJ9_ok : ∀ k, k < 0 → parseFieldDescriptor (TJ9 k).2.2.1 = some (tyJ9 k) := by decide +kernel
abbrev cJ9_abs_0f7a4 : ByteArray := prog_14_method_59_code
def yJ9_abs_0f7a4 : MethodName := ⟨RJ9, "abs", "(I)I"⟩
abbrev cJ9_max_7cf53 : ByteArray := prog_14_method_65_code
def yJ9_max_7cf53 : MethodName := ⟨RJ9, "max", "(II)I"⟩
abbrev cJ9_min_7cf53 : ByteArray := prog_14_method_69_code
def yJ9_min_7cf53 : MethodName := ⟨RJ9, "min", "(II)I"⟩
def RJ0 : String := "java/lang/String"
def TJ0 : u_T := fun k => match k with
  | _ => ("", "", "", false)
def tyJ0 : Nat → FieldType := fun k => match k with
  | _ => .int
theorem nmJ0 : ∀ a, a < 0 → ∀ b, b < 0 → a ≠ b → (TJ0 a).2.1 ≠ (TJ0 b).2.1 := by decide +kernel
theorem tyJ0_ok : ∀ k, k < 0 → parseFieldDescriptor (TJ0 k).2.2.1 = some (tyJ0 k) := by decide +kernel
abbrev cJ0_length_8abf5 : ByteArray := prog_15_method_54_code
def yJ0_length_8abf5 : MethodName := ⟨RJ0, "length", "()I"⟩
abbrev cJ0_charAt_5068e : ByteArray := prog_15_method_56_code
def yJ0_charAt_5068e : MethodName := ⟨RJ0, "charAt", "(I)C"⟩
abbrev cJ0_coder_7d493 : ByteArray := prog_15_method_152_code
def yJ0_coder_7d493 : MethodName := ⟨RJ0, "coder", "()B"⟩
abbrev cJ0_isLatin1_aae02 : ByteArray := prog_15_method_154_code
def yJ0_isLatin1_aae02 : MethodName := ⟨RJ0, "isLatin1", "()Z"⟩
abbrev cJ0_checkIndex_df160 : ByteArray := prog_15_method_155_code
def yJ0_checkIndex_df160 : MethodName := ⟨RJ0, "checkIndex", "(II)V"⟩
def RJ1 : String := "java/lang/StringLatin1"
def TJ1 : u_T := fun k => match k with
  | _ => ("", "", "", false)
def tyJ1 : Nat → FieldType := fun k => match k with
  | _ => .int
theorem nmJ1 : ∀ a, a < 0 → ∀ b, b < 0 → a ≠ b → (TJ1 a).2.1 ≠ (TJ1 b).2.1 := by decide +kernel
theorem tyJ1_ok : ∀ k, k < 0 → parseFieldDescriptor (TJ1 k).2.2.1 = some (tyJ1 k) := by decide +kernel
abbrev cJ1_charAt_3b067 : ByteArray := prog_16_method_2_code
def yJ1_charAt_3b067 : MethodName := ⟨RJ1, "charAt", "([BI)C"⟩
def RJ2 : String := "java/lang/StringUTF16"
def TJ2 : u_T := fun k => match k with
  | _ => ("", "", "", false)
def tyJ2 : Nat → FieldType := fun k => match k with
  | _ => .int
theorem nmJ2 : ∀ a, a < 0 → ∀ b, b < 0 → a ≠ b → (TJ2 a).2.1 ≠ (TJ2 b).2.1 := by decide +kernel
theorem tyJ2_ok : ∀ k, k < 0 → parseFieldDescriptor (TJ2 k).2.2.1 = some (tyJ2 k) := by decide +kernel
abbrev cJ2_getChar_3b067 : ByteArray := prog_17_method_5_code
def yJ2_getChar_3b067 : MethodName := ⟨RJ2, "getChar", "([BI)C"⟩
abbrev cJ2_length_9d52b : ByteArray := prog_17_method_6_code
def yJ2_length_9d52b : MethodName := ⟨RJ2, "length", "([B)I"⟩
abbrev cJ2_charAt_3b067 : ByteArray := prog_17_method_83_code
def yJ2_charAt_3b067 : MethodName := ⟨RJ2, "charAt", "([BI)C"⟩
abbrev cJ2_checkIndex_2214a : ByteArray := prog_17_method_91_code
def yJ2_checkIndex_2214a : MethodName := ⟨RJ2, "checkIndex", "(I[B)V"⟩
def RJ3 : String := "jdk/internal/util/Preconditions"
def TJ3 : u_T := fun k => match k with
  | _ => ("", "", "", false)
def tyJ3 : Nat → FieldType := fun k => match k with
  | _ => .int
theorem nmJ3 : ∀ a, a < 0 → ∀ b, b < 0 → a ≠ b → (TJ3 a).2.1 ≠ (TJ3 b).2.1 := by decide +kernel
theorem tyJ3_ok : ∀ k, k < 0 → parseFieldDescriptor (TJ3 k).2.2.1 = some (tyJ3 k) := by decide +kernel
abbrev cJ3_checkIndex_8e157 : ByteArray := prog_18_method_11_code
def yJ3_checkIndex_8e157 : MethodName := ⟨RJ3, "checkIndex", "(IILjava/util/function/BiFunction;)I"⟩
def RL : String := "ViewCardsLaw"
abbrev cL_law : ByteArray := code
def yL_law : MethodName := ⟨RL, "law", "([I)Z"⟩
abbrev vwCl : List vw_C := [(RX0, TX0, 13), (RX1, TX1, 13), (RX2, TX2, 4), (RX3, TX3, 5), (RX4, TX4, 7), (RX5, TX5, 5), (RX6, TX6, 5), (RX7, TX7, 3), (RX8, TX8, 10), (RX9, TX9, 49)]
end
section
/-! THE FRAME: a world is a list of cells; the cell at place k stands at the address z + k. R: what a method does from a place on, said over worlds alone. -/
def TW : List Cond := lw_tbl.filter goodWord
theorem TW_of {w : Cond} (h : w ∈ lw_tbl) (hg : goodWord w = true) : w ∈ TW := List.mem_filter.mpr ⟨h, hg⟩
theorem TW_tb (i : Nat) {w : Cond} (h : tables_1[i]? = some w) (hg : goodWord w = true) : w ∈ TW := TW_of (List.mem_append_right _ (List.mem_of_getElem? h)) hg
theorem TW_pr (i : Nat) {w : Cond} (h : (k2_sels lw_privs)[i]? = some w) (hg : goodWord w = true) : w ∈ TW := TW_of (List.mem_append_left _ (List.mem_of_getElem? h)) hg
theorem TW_good : ∀ w ∈ TW, (w.onTables && w.keeps) = true ∨ ∃ ty, w = .arrayClass ty := fun w h => good_of_word (List.mem_filter.mp h).2
/-- what stays the same all through: the launch's address of the first cell, the classes, the array classes, the Strings' places, the script -/
abbrev vG : Type := Nat × va_G × (Nat → ClassId) × (Nat → Nat) × (Nat → Nat) × Nat × Nat × (Nat → Int32)
abbrev gz (G : vG) : Nat := G.1
abbrev gD (G : vG) : va_G := G.2.1
abbrev gA (G : vG) : Nat → ClassId := G.2.2.1
abbrev gK (G : vG) : Nat → Nat := G.2.2.2.1
abbrev gV (G : vG) : Nat → Nat := G.2.2.2.2.1
abbrev gb (G : vG) : Nat := G.2.2.2.2.2.1
abbrev gL (G : vG) : Nat := G.2.2.2.2.2.2.1
abbrev gX (G : vG) : Nat → Int32 := G.2.2.2.2.2.2.2
def ad (G : vG) (k : Nat) : Nat := if k < 1000000 then gz G + k else if k < 1000100 then gK G (k - 1000000) else if k < 1000200 then gV G (k - 1000100) else gb G
theorem ad_lt {G : vG} {k : Nat} (h : k < 1000000) : ad G k = gz G + k := if_pos h
def tv (G : vG) : Value → Value := fun v => match v with
  | .ref a => .ref (ad G a)
  | .int x => .int x
  | .long x => .long x
  | .null => .null
  | .float x => .float x
  | .double x => .double x
  | .retAddr x => .retAddr x
theorem tv_cat (G : vG) (v : Value) : (tv G v).category = v.category := by cases v <;> rfl
theorem tv_cats (G : vG) (l : List Value) : ((l.map (tv G)).map fun v => v.category).sum = (l.map fun v => v.category).sum := by
  rw [List.map_map]
  congr 1
  apply List.map_congr_left
  intro v _
  exact tv_cat G v
abbrev VE : Type := (Nat × vp_A) ⊕ (Nat × List Value)
abbrev VW : Type := List VE
def tc (G : vG) (a : vp_A) : vp_A := (a.1, match a.2 with
  | .inl f => .inl f
  | .inr (.inl f) => .inr (.inl f)
  | .inr (.inr (.inl f)) => .inr (.inr (.inl f))
  | .inr (.inr (.inr (.inl f))) => .inr (.inr (.inr (.inl f)))
  | .inr (.inr (.inr (.inr f))) => .inr (.inr (.inr (.inr (fun i => (f i).map (ad G))))))
def te (G : vG) (e : VE) : va_E := match e with
  | .inl (k, a) => .inl (gA G k, tc G a)
  | .inr (c, fs) => .inr (c, fs.map (tv G))
def rw' (G : vG) (w : VW) : va_W := w.mapIdx (fun k e => (ad G k, te G e))
theorem rw_len (G : vG) (w : VW) : (rw' G w).length = w.length := by simp [rw']
theorem rw_get {G : vG} {w : VW} {k : Nat} {e : VE} (h : w[k]? = some e) : (rw' G w)[k]? = some (ad G k, te G e) := by
  simp [rw', List.getElem?_mapIdx, h]
theorem rw_inv {G : vG} {w : VW} {k : Nat} {q : Nat × va_E} (h : (rw' G w)[k]? = some q) : ∃ e, w[k]? = some e ∧ q = (ad G k, te G e) := by
  simp only [rw', List.getElem?_mapIdx] at h
  cases hw : w[k]? with
  | none => rw [hw] at h; cases h
  | some e => rw [hw] at h; exact ⟨e, rfl, (Option.some.inj h).symm⟩
theorem rw_set (G : vG) (w : VW) (k : Nat) (e : VE) : (rw' G w).set k (ad G k, te G e) = rw' G (w.set k e) := by
  apply List.ext_getElem?
  intro i
  by_cases hi : k = i
  · subst hi
    by_cases hl : k < w.length
    · rw [List.getElem?_set_self (by rw [rw_len]; exact hl), rw_get (List.getElem?_set_self hl)]
    · rw [List.getElem?_eq_none (by simp [rw_len]; omega), List.getElem?_eq_none (by simp [rw_len]; omega)]
  · rw [List.getElem?_set_ne hi]
    simp only [rw', List.getElem?_mapIdx]
    rw [List.getElem?_set_ne hi]
theorem rw_push (G : vG) (w : VW) (e : VE) : rw' G w ++ [(ad G w.length, te G e)] = rw' G (w ++ [e]) := by
  simp [rw', List.mapIdx_append]
abbrev Ar (G : vG) : Nat → Prop := fun q => gz G ≤ q
theorem rw_D {G : vG} {w : VW} (h : w.length ≤ 1000000) : va_D (Ar G) (rw' G w) := by
  have lt : ∀ {i : Nat} {p : Nat × va_E}, (rw' G w)[i]? = some p → i < 1000000 := fun hi => by
    have := (List.getElem?_eq_some_iff.mp hi).1
    rw [rw_len] at this
    omega
  refine ⟨fun i j p q hi hj hpq => ?_, fun k q hk => ?_⟩
  · have li := lt hi
    have lj := lt hj
    obtain ⟨e1, -, rfl⟩ := rw_inv hi
    obtain ⟨e2, -, rfl⟩ := rw_inv hj
    have : ad G i = ad G j := hpq
    rw [ad_lt li, ad_lt lj] at this
    omega
  · have lk := lt hk
    obtain ⟨e1, -, rfl⟩ := rw_inv hk
    show gz G ≤ ad G k
    rw [ad_lt lk]
    omega
def hpOK (G : vG) (w : VW) (H : Heap) : Prop := H.size = gz G + w.length ∧ w.length ≤ 1000000 ∧ va_P (gD G) vwCl (rw' G w) H
abbrev tyG (G : vG) : List (ClassId × FieldType) := [(gA G 0, .int), (gA G 1, .long), (gA G 2, .boolean), (gA G 3, .array .int)]
/-- the links to private members of nest mates -/
def NWl : List (String × Nat × MethodName) := [("ViewCards", 9, ⟨"ViewCards$Album", "<init>", "()V"⟩), ("ViewCards$Dating", 37, ⟨"ViewCards$Spans", "<init>", "()V"⟩), ("ViewCards", 50, ⟨"ViewCards$Reader", "<init>", "()V"⟩), ("ViewCards", 57, ⟨"ViewCards$Lines", "<init>", "()V"⟩), ("ViewCards$Kin", 78, ⟨"ViewCards", "byteOf", "(JI)I"⟩), ("ViewCards$Kin", 102, ⟨"ViewCards", "lowest", "(I)I"⟩), ("ViewCards$Kin", 106, ⟨"ViewCards", "has", "(II)Z"⟩), ("ViewCards$Album", 61, ⟨"ViewCards", "has", "(II)Z"⟩), ("ViewCards$Dating", 60, ⟨"ViewCards", "has", "(II)Z"⟩), ("ViewCards$Lines", 31, ⟨"ViewCards", "isWithin", "(III)Z"⟩), ("ViewCards$Dating", 142, ⟨"ViewCards", "isWithin", "(III)Z"⟩), ("ViewCards$Ground", 49, ⟨"ViewCards", "commonDivisor", "(II)I"⟩), ("ViewCards$Reader", 114, ⟨"ViewCards", "isLetter", "(I)Z"⟩), ("ViewCards$Reader", 101, ⟨"ViewCards", "isDigit", "(I)Z"⟩), ("ViewCards$Reader", 88, ⟨"ViewCards", "isWithin", "(III)Z"⟩)]
/-- the six texts of the reader: their places in its pool, and what they say -/
def cpS : List (Nat × String) := [(47, "of"), (57, "from"), (59, "to"), (61, "day"), (63, "back"), (34, ";")]
def lenS : List Nat := [2, 4, 2, 3, 4, 1]
def bytS : List (List Int32) := [[111, 102], [102, 114, 111, 109], [116, 111], [100, 97, 121], [98, 97, 99, 107], [59]]
/-- the class of arrays of rows -/
def AOI (U : State) : Prop := (Cond.arrayOver (.array .int)).before #[] U = true
theorem AOI.moved {u U : State} (hvm : u.vm.Alike U.vm) (h : AOI u) : AOI U := Jvm.Stand.arrayOver_alikeB hvm h
/-- what holds outside the world, and stays -/
def K9 (G : vG) (U : State) (H : Heap) : Prop :=
  va_K (gD G) vwCl (tyG G) U ∧ (∀ q ∈ NWl, va_Nw (.methodLinkNest q.1 q.2.1 q.2.2 "ViewCards") U) ∧ (∀ (i : Nat) (q : Nat × String), cpS[i]? = some q → vk_R "ViewCards$Reader" q.1 q.2 (gK G i) U) ∧
  vk_S 6 lenS bytS (gK G) (gV G) (Ar G) U H ∧ va_Z "java/lang/String" "COMPACT_STRINGS" "Z" (.int 1) (Ar G) U H ∧ va_Zq "jdk/internal/util/Preconditions" "SIOOBE_FORMATTER" "Ljava/util/function/BiFunction;" (Ar G) U H ∧
  va_X (gb G) (gL G) (gX G) U H ∧ gb G < gz G ∧ gz G ≤ H.size ∧ AOI U
theorem K9.go {G : vG} {s U : State} {H H1 : Heap} (h : K9 G s H) (hW : s.WarmedH U.vm) (hz : H.size ≤ H1.size) (hq : ∀ a : Nat, a < H.size → ¬ Ar G a → H1[a]? = H[a]?) : K9 G U H1 := by
  obtain ⟨h1, h2, h3, h4, h5, h6, h7, h8, h9, h10⟩ := h
  refine ⟨va_K.moved hW.alike h1, fun q hm => va_Nw.warmM hW (h2 q hm), fun i q hm => (h3 i q hm).warm hW, (h4.moved hW.alike).kept hq, (h5.moved hW.alike).kept hq, (h6.moved hW.alike).kept hq, (h7.moved hW.alike).kept (hq _ (Nat.lt_of_lt_of_le h8 h9) (Nat.not_le.mpr h8)), h8, Nat.le_trans h9 hz, h10.moved hW.alike⟩
theorem K9.call {G : vG} {U : State} {H : Heap} (h : K9 G U H) (g : JFrame) (mk : MethodId) (a : Array Value) : K9 G (U.calling g mk a) H := by
  obtain ⟨h1, h2, h3, h4, h5, h6, h7, h8, h9, h10⟩ := h
  have hA : U.vm.Alike (U.calling g mk a).vm := Vm.Alike.refl U.vm
  exact ⟨va_K.moved hA h1, fun q hm => va_Nw.same rfl rfl (h2 q hm), fun i q hm => vk_R.same rfl (h3 i q hm), h4.moved hA, h5.moved hA, h6.moved hA, h7.moved hA, h8, h9, h10.moved hA⟩
/-- a method's end, over worlds -/
def Qm (G : vG) (Q : Option Value → VW → Prop) : Array Value → State → Outcome → State → Prop := fun _ st oc t => (∃ (r : Option Value) (w : VW), oc = .returned (r.map (tv G)) ∧ Q r w ∧ hpOK G w t.heap) ∧ va_F (Ar G) st t
/-- a method's contract, over worlds -/
def Sp (G : vG) (l : Launch) (y : MethodName) (cc : ByteArray) (nL : Nat) (ret : Option FieldType) (d mc ms : Nat) (as : List Value) (w : VW) (Q : Option Value → VW → Prop) : Prop :=
  Met l y (.code y cc nL ret :: TW) { frames := d, cells := mc, slots := ms, locals := 40 * d } (va_Pc (as.map (tv G)) (fun U => hpOK G w U.heap ∧ K9 G U U.heap)) (Qm G Q) mc ms (Ar G)
/-- positional locals -/
def hasL (G : vG) (ls : Array Slot) (nL : Nat) (lv : List (Option Value)) : Prop := ls.size = nL ∧ lv_wf ls ∧ ∀ (i : Nat) (v : Value), lv[i]? = some (some v) → ls[i]? = some (.val (tv G v))
def posA : List Value → List (Option Value)
  | [] => []
  | v :: vs => if v.category = 2 then some v :: none :: posA vs else some v :: posA vs
/-- the machine, in a body of method y -/
def Cx (G : vG) (y : MethodName) (cc : ByteArray) (nL d mc ms : Nat) (p : Program) (R : Room) (s : State) (m : MethodId) (args : Array Value) (meth : Method) (c : Code) : Prop :=
  p.tables.exec = Jvm.exec ∧ c.code = cc ∧ c.maxLocals = nL ∧ s.vm.findClass y.cls = some m.cls ∧ (∀ w ∈ TW, w.before args s = true) ∧ K9 G s s.heap ∧ d ≤ R.frames ∧ 40 * d ≤ R.locals ∧ mc ≤ R.cells ∧ ms ≤ R.slots ∧ meth.name = y.name
def retI (r : Option Value) : Instr := match r with
  | none => .return_
  | some (.long _) => .lreturn
  | some _ => .ireturn
def retF (ret : Option FieldType) (r : Option Value) : Prop := match r with
  | none => ret = none
  | some (.long _) => ret = some .long
  | some (.int x) => ∃ ty, ret = some ty ∧ narrow ty (.int x) = .int x
  | some _ => False
/-- from this place on, the method returns, and what Q says holds then -/
def R (G : vG) (l : Launch) (y : MethodName) (cc : ByteArray) (nL : Nat) (ret : Option FieldType) (d mc ms : Nat) (Q : Option Value → VW → Prop) (pc : Nat) (lv : List (Option Value)) (st : List Value) (w : VW) (k n : Nat) : Prop :=
  ∀ (p : Program) (e : Env) (Rm : Room) (s : State) (m : MethodId) (args : Array Value) (below : List Frame) (meth : Method) (c : Code) (Qt : State → Prop), Cx G y cc nL d mc ms p Rm s m args meth c →
    (∀ (r : Option Value) (w' : VW) (H : Heap) (locs : List Loc) (k n pc : Nat) (ls : Array Slot), Q r w' → hpOK G w' H → va_S (Ar G) s.heap H locs → k ≤ mc → n ≤ ms → decode cc pc = .ok (retI r, 1) → retF ret r → W p l e Rm s m args below meth c H locs k n Qt (F0 m pc ls (r.map (tv G)).toList)) →
    ∀ (H : Heap) (locs : List Loc) (ls : Array Slot), hpOK G w H → va_S (Ar G) s.heap H locs → hasL G ls nL lv → W p l e Rm s m args below meth c H locs k n Qt (F0 m pc ls (st.map (tv G)))
theorem posA_at (G : vG) : ∀ (vs : List Value) (k i : Nat) (v : Value), (posA vs)[i]? = some (some v) → (k + i, tv G v) ∈ lv_args k (vs.map (tv G)) := by
  intro vs
  induction vs with
  | nil => intro k i v h; simp [posA] at h
  | cons a as ih =>
    intro k i v h
    unfold posA at h
    by_cases hc : a.category = 2
    · rw [if_pos hc] at h
      match i with
      | 0 =>
        have : a = v := by simpa using h
        subst this
        simp [lv_args]
      | 1 => simp at h
      | i + 2 =>
        have h2 : (posA as)[i]? = some (some v) := by simpa using h
        have h3 := ih (k + 2) i v h2
        have : k + 2 + i = k + (i + 2) := by omega
        rw [this] at h3
        simp [lv_args, tv_cat, hc]
        exact h3
    · rw [if_neg hc] at h
      match i with
      | 0 =>
        have : a = v := by simpa using h
        subst this
        simp [lv_args]
      | i + 1 =>
        have h2 : (posA as)[i]? = some (some v) := by simpa using h
        have h3 := ih (k + 1) i v h2
        have : k + 1 + i = k + (i + 1) := by omega
        rw [this] at h3
        simp [lv_args, tv_cat, hc]
        exact h3
theorem hasL_entry {G : vG} {vs : List Value} {n : Nat} (h : (lg_sl (vs.map (tv G))).length ≤ n) (r : List (Option Value)) (hr : ∀ q ∈ r, q = none) : hasL G ((lg_sl (vs.map (tv G)) ++ List.replicate (n - (lg_sl (vs.map (tv G))).length) Slot.unset).toArray) n (posA vs ++ r) := by
  have h1 := lv_entry (vs.map (tv G)) h
  refine ⟨h1.1, h1.2.1, fun i v hi => ?_⟩
  by_cases hl : i < (posA vs).length
  · rw [List.getElem?_append_left hl] at hi
    have := posA_at G vs 0 i v hi
    rw [Nat.zero_add] at this
    exact h1.2.2 _ this
  · rw [List.getElem?_append_right (by omega)] at hi
    have := hr _ (List.mem_of_getElem? hi)
    cases this
theorem Sp_of_R {G : vG} {l : Launch} {y : MethodName} {cc : ByteArray} {nL d mc ms : Nat} {ret : Option FieldType} {as : List Value} {w : VW} {Q : Option Value → VW → Prop} (lv : List (Option Value)) (r : List (Option Value)) (hlv : posA as ++ r = lv) (hr : ∀ q ∈ r, q = none) (hy : plainName y.cls = true) (hn : (lg_sl (as.map (tv G))).length ≤ nL)
    (h : R G l y cc nL ret d mc ms Q 0 lv [] w 0 0) : Sp G l y cc nL ret d mc ms as w Q := by
  subst hlv
  refine Met.ofW (cc := cc) (maxL := nL) (ret := ret) hy rfl ?_
  intro p e s m args below meth c s₁ B hml hv
  obtain ⟨rfl, hH, hK⟩ := hv
  have hx := B.exec
  have hb := B.bytes
  have hr1 := B.returns
  have hts0 := atoms_spec (ws := .code y cc nL ret :: TW) B.pre
  have hts : ∀ w ∈ TW, w.before (as.map (tv G)).toArray s = true := fun w hw => hts0 w (List.mem_cons_of_mem _ hw)
  have hown : s.vm.findClass y.cls = some m.cls := findClass_of_methodNamed B.named
  have hlocks := B.notSynchronized
  have hin : meth.name = y.name := (name_of_methodNamed B.named B.method).1
  rw [lg_entry_eq]
  refine h p e _ s m _ below meth c _ ⟨hx, hb, hml, hown, hts, hK, Nat.le_refl _, Nat.le_refl _, Nat.le_refl _, Nat.le_refl _, hin⟩ ?_ s.heap [] _ hH va_S.rf (hasL_entry hn r hr)
  intro rv w' H locs k n pc ls hQ hH' hS' hk hn' hdg hf
  refine W.widen hk hn' ?_
  match rv, hdg, hf with
  | none, hdg, hf => exact W.vret hx hb (hr1.trans hf) (fun t ht hW => ⟨⟨none, w', rfl, hQ, by rw [ht]; exact hH'⟩, hS'.F ht⟩) hS'.2.2 hdg
  | some (.long x), hdg, hf => exact W.lret hx hb (hr1.trans hf) (fun t ht hW => ⟨⟨some (.long x), w', rfl, hQ, by rw [ht]; exact hH'⟩, hS'.F ht⟩) hS'.2.2 hdg
  | some (.int x), hdg, hf =>
    obtain ⟨ty, h1, h2⟩ := hf
    exact W.zret hx hb (hr1.trans h1) h2 (fun t ht hW => ⟨⟨some (.int x), w', rfl, hQ, by rw [ht]; exact hH'⟩, hS'.F ht⟩) hS'.2.2 hdg
end
section
section RULES
variable {G : vG} {l : Launch} {y : MethodName} {cc : ByteArray} {nL : Nat} {ret : Option FieldType} {d mc ms : Nat} {Q : Option Value → VW → Prop} {pc : Nat} {lv : List (Option Value)} {st : List Value} {w : VW} {k n : Nat}
theorem R_iadd {a b : Int32} (hdg : decode cc pc = .ok (.iadd, 1)) (kk : R G l y cc nL ret d mc ms Q (pc + 1) lv (.int (a + b) :: st) w k n) : R G l y cc nL ret d mc ms Q pc lv (.int b :: .int a :: st) w k n := by
  intro p e Rm s m args below meth c Qt C hret H locs ls hH hS hl
  exact lv_iadd C.1 C.2.1 hdg (kk p e Rm s m args below meth c Qt C hret H locs ls hH hS hl)
theorem R_isub {a b : Int32} (hdg : decode cc pc = .ok (.isub, 1)) (kk : R G l y cc nL ret d mc ms Q (pc + 1) lv (.int (a - b) :: st) w k n) : R G l y cc nL ret d mc ms Q pc lv (.int b :: .int a :: st) w k n := by
  intro p e Rm s m args below meth c Qt C hret H locs ls hH hS hl
  exact lv_isub C.1 C.2.1 hdg (kk p e Rm s m args below meth c Qt C hret H locs ls hH hS hl)
theorem R_imul {a b : Int32} (hdg : decode cc pc = .ok (.imul, 1)) (kk : R G l y cc nL ret d mc ms Q (pc + 1) lv (.int (a * b) :: st) w k n) : R G l y cc nL ret d mc ms Q pc lv (.int b :: .int a :: st) w k n := by
  intro p e Rm s m args below meth c Qt C hret H locs ls hH hS hl
  exact lv_imul C.1 C.2.1 hdg (kk p e Rm s m args below meth c Qt C hret H locs ls hH hS hl)
theorem R_iand {a b : Int32} (hdg : decode cc pc = .ok (.iand, 1)) (kk : R G l y cc nL ret d mc ms Q (pc + 1) lv (.int (a &&& b) :: st) w k n) : R G l y cc nL ret d mc ms Q pc lv (.int b :: .int a :: st) w k n := by
  intro p e Rm s m args below meth c Qt C hret H locs ls hH hS hl
  exact lv_iand C.1 C.2.1 hdg (kk p e Rm s m args below meth c Qt C hret H locs ls hH hS hl)
theorem R_ior {a b : Int32} (hdg : decode cc pc = .ok (.ior, 1)) (kk : R G l y cc nL ret d mc ms Q (pc + 1) lv (.int (a ||| b) :: st) w k n) : R G l y cc nL ret d mc ms Q pc lv (.int b :: .int a :: st) w k n := by
  intro p e Rm s m args below meth c Qt C hret H locs ls hH hS hl
  exact lv_ior C.1 C.2.1 hdg (kk p e Rm s m args below meth c Qt C hret H locs ls hH hS hl)
theorem R_ixor {a b : Int32} (hdg : decode cc pc = .ok (.ixor, 1)) (kk : R G l y cc nL ret d mc ms Q (pc + 1) lv (.int (a ^^^ b) :: st) w k n) : R G l y cc nL ret d mc ms Q pc lv (.int b :: .int a :: st) w k n := by
  intro p e Rm s m args below meth c Qt C hret H locs ls hH hS hl
  exact lv_ixor C.1 C.2.1 hdg (kk p e Rm s m args below meth c Qt C hret H locs ls hH hS hl)
theorem R_idiv {a b : Int32} (hdg : decode cc pc = .ok (.idiv, 1)) (hne : ¬ b = 0) (kk : R G l y cc nL ret d mc ms Q (pc + 1) lv (.int (a / b) :: st) w k n) : R G l y cc nL ret d mc ms Q pc lv (.int b :: .int a :: st) w k n := by
  intro p e Rm s m args below meth c Qt C hret H locs ls hH hS hl
  exact lv_idiv C.1 C.2.1 hdg hne (kk p e Rm s m args below meth c Qt C hret H locs ls hH hS hl)
theorem R_irem {a b : Int32} (hdg : decode cc pc = .ok (.irem, 1)) (hne : ¬ b = 0) (kk : R G l y cc nL ret d mc ms Q (pc + 1) lv (.int (a - a / b * b) :: st) w k n) : R G l y cc nL ret d mc ms Q pc lv (.int b :: .int a :: st) w k n := by
  intro p e Rm s m args below meth c Qt C hret H locs ls hH hS hl
  exact lv_irem C.1 C.2.1 hdg hne (kk p e Rm s m args below meth c Qt C hret H locs ls hH hS hl)
theorem R_ishl {a b : Int32} (hdg : decode cc pc = .ok (.ishl, 1)) (kk : R G l y cc nL ret d mc ms Q (pc + 1) lv (.int (a <<< (b &&& 31)) :: st) w k n) : R G l y cc nL ret d mc ms Q pc lv (.int b :: .int a :: st) w k n := by
  intro p e Rm s m args below meth c Qt C hret H locs ls hH hS hl
  exact lv_ishl C.1 C.2.1 hdg (kk p e Rm s m args below meth c Qt C hret H locs ls hH hS hl)
theorem R_ishr {a b : Int32} (hdg : decode cc pc = .ok (.ishr, 1)) (kk : R G l y cc nL ret d mc ms Q (pc + 1) lv (.int (a >>> (b &&& 31)) :: st) w k n) : R G l y cc nL ret d mc ms Q pc lv (.int b :: .int a :: st) w k n := by
  intro p e Rm s m args below meth c Qt C hret H locs ls hH hS hl
  exact lv_ishr C.1 C.2.1 hdg (kk p e Rm s m args below meth c Qt C hret H locs ls hH hS hl)
theorem R_iushr {a b : Int32} (hdg : decode cc pc = .ok (.iushr, 1)) (kk : R G l y cc nL ret d mc ms Q (pc + 1) lv (.int ((a.toUInt32 >>> (b.toUInt32 &&& Int32.toUInt32 31)).toInt32) :: st) w k n) : R G l y cc nL ret d mc ms Q pc lv (.int b :: .int a :: st) w k n := by
  intro p e Rm s m args below meth c Qt C hret H locs ls hH hS hl
  exact lv_iushr C.1 C.2.1 hdg rfl (kk p e Rm s m args below meth c Qt C hret H locs ls hH hS hl)
theorem R_ineg {a : Int32} (hdg : decode cc pc = .ok (.ineg, 1)) (kk : R G l y cc nL ret d mc ms Q (pc + 1) lv (.int (-a) :: st) w k n) : R G l y cc nL ret d mc ms Q pc lv (.int a :: st) w k n := by
  intro p e Rm s m args below meth c Qt C hret H locs ls hH hS hl
  exact lv_ineg C.1 C.2.1 hdg (kk p e Rm s m args below meth c Qt C hret H locs ls hH hS hl)
theorem R_ladd {a b : Int64} (hdg : decode cc pc = .ok (.ladd, 1)) (kk : R G l y cc nL ret d mc ms Q (pc + 1) lv (.long (a + b) :: st) w k n) : R G l y cc nL ret d mc ms Q pc lv (.long b :: .long a :: st) w k n := by
  intro p e Rm s m args below meth c Qt C hret H locs ls hH hS hl
  exact lv_ladd C.1 C.2.1 hdg (kk p e Rm s m args below meth c Qt C hret H locs ls hH hS hl)
theorem R_lsub {a b : Int64} (hdg : decode cc pc = .ok (.lsub, 1)) (kk : R G l y cc nL ret d mc ms Q (pc + 1) lv (.long (a - b) :: st) w k n) : R G l y cc nL ret d mc ms Q pc lv (.long b :: .long a :: st) w k n := by
  intro p e Rm s m args below meth c Qt C hret H locs ls hH hS hl
  exact lv_lsub C.1 C.2.1 hdg (kk p e Rm s m args below meth c Qt C hret H locs ls hH hS hl)
theorem R_lmul {a b : Int64} (hdg : decode cc pc = .ok (.lmul, 1)) (kk : R G l y cc nL ret d mc ms Q (pc + 1) lv (.long (a * b) :: st) w k n) : R G l y cc nL ret d mc ms Q pc lv (.long b :: .long a :: st) w k n := by
  intro p e Rm s m args below meth c Qt C hret H locs ls hH hS hl
  exact lv_lmul C.1 C.2.1 hdg (kk p e Rm s m args below meth c Qt C hret H locs ls hH hS hl)
theorem R_land {a b : Int64} (hdg : decode cc pc = .ok (.land, 1)) (kk : R G l y cc nL ret d mc ms Q (pc + 1) lv (.long (a &&& b) :: st) w k n) : R G l y cc nL ret d mc ms Q pc lv (.long b :: .long a :: st) w k n := by
  intro p e Rm s m args below meth c Qt C hret H locs ls hH hS hl
  exact lv_land C.1 C.2.1 hdg (kk p e Rm s m args below meth c Qt C hret H locs ls hH hS hl)
theorem R_lor {a b : Int64} (hdg : decode cc pc = .ok (.lor, 1)) (kk : R G l y cc nL ret d mc ms Q (pc + 1) lv (.long (a ||| b) :: st) w k n) : R G l y cc nL ret d mc ms Q pc lv (.long b :: .long a :: st) w k n := by
  intro p e Rm s m args below meth c Qt C hret H locs ls hH hS hl
  exact lv_lor C.1 C.2.1 hdg (kk p e Rm s m args below meth c Qt C hret H locs ls hH hS hl)
theorem R_lxor {a b : Int64} (hdg : decode cc pc = .ok (.lxor, 1)) (kk : R G l y cc nL ret d mc ms Q (pc + 1) lv (.long (a ^^^ b) :: st) w k n) : R G l y cc nL ret d mc ms Q pc lv (.long b :: .long a :: st) w k n := by
  intro p e Rm s m args below meth c Qt C hret H locs ls hH hS hl
  exact lv_lxor C.1 C.2.1 hdg (kk p e Rm s m args below meth c Qt C hret H locs ls hH hS hl)
theorem R_lcmp {a b : Int64} (hdg : decode cc pc = .ok (.lcmp, 1)) (kk : R G l y cc nL ret d mc ms Q (pc + 1) lv (.int (lg_cmp a b) :: st) w k n) : R G l y cc nL ret d mc ms Q pc lv (.long b :: .long a :: st) w k n := by
  intro p e Rm s m args below meth c Qt C hret H locs ls hH hS hl
  exact W.lcmp C.1 C.2.1 hdg (kk p e Rm s m args below meth c Qt C hret H locs ls hH hS hl)
theorem R_lshl {a : Int64} {b : Int32} (hdg : decode cc pc = .ok (.lshl, 1)) (kk : R G l y cc nL ret d mc ms Q (pc + 1) lv (.long (a <<< (b.toInt64 &&& 63)) :: st) w k n) : R G l y cc nL ret d mc ms Q pc lv (.int b :: .long a :: st) w k n := by
  intro p e Rm s m args below meth c Qt C hret H locs ls hH hS hl
  exact lv_lshl C.1 C.2.1 hdg rfl (kk p e Rm s m args below meth c Qt C hret H locs ls hH hS hl)
theorem R_lshr {a : Int64} {b : Int32} (hdg : decode cc pc = .ok (.lshr, 1)) (kk : R G l y cc nL ret d mc ms Q (pc + 1) lv (.long (a >>> (b.toInt64 &&& 63)) :: st) w k n) : R G l y cc nL ret d mc ms Q pc lv (.int b :: .long a :: st) w k n := by
  intro p e Rm s m args below meth c Qt C hret H locs ls hH hS hl
  exact lv_lshr C.1 C.2.1 hdg rfl (kk p e Rm s m args below meth c Qt C hret H locs ls hH hS hl)
theorem R_lushr {a : Int64} {b : Int32} (hdg : decode cc pc = .ok (.lushr, 1)) (kk : R G l y cc nL ret d mc ms Q (pc + 1) lv (.long ((a.toUInt64 >>> (b.toInt64.toUInt64 &&& Int64.toUInt64 63)).toInt64) :: st) w k n) : R G l y cc nL ret d mc ms Q pc lv (.int b :: .long a :: st) w k n := by
  intro p e Rm s m args below meth c Qt C hret H locs ls hH hS hl
  exact lv_lushr C.1 C.2.1 hdg rfl (kk p e Rm s m args below meth c Qt C hret H locs ls hH hS hl)
theorem R_i2l {a : Int32} (hdg : decode cc pc = .ok (.i2l, 1)) (kk : R G l y cc nL ret d mc ms Q (pc + 1) lv (.long a.toInt64 :: st) w k n) : R G l y cc nL ret d mc ms Q pc lv (.int a :: st) w k n := by
  intro p e Rm s m args below meth c Qt C hret H locs ls hH hS hl
  exact lv_i2l C.1 C.2.1 hdg rfl (kk p e Rm s m args below meth c Qt C hret H locs ls hH hS hl)
theorem R_l2i {a : Int64} (hdg : decode cc pc = .ok (.l2i, 1)) (kk : R G l y cc nL ret d mc ms Q (pc + 1) lv (.int a.toInt32 :: st) w k n) : R G l y cc nL ret d mc ms Q pc lv (.long a :: st) w k n := by
  intro p e Rm s m args below meth c Qt C hret H locs ls hH hS hl
  exact lv_l2i C.1 C.2.1 hdg rfl (kk p e Rm s m args below meth c Qt C hret H locs ls hH hS hl)
theorem R_i2c {a : Int32} (hdg : decode cc pc = .ok (.i2c, 1)) (kk : R G l y cc nL ret d mc ms Q (pc + 1) lv (.int (a.toUInt32 % 65536).toInt32 :: st) w k n) : R G l y cc nL ret d mc ms Q pc lv (.int a :: st) w k n := by
  intro p e Rm s m args below meth c Qt C hret H locs ls hH hS hl
  exact lv_i2c C.1 C.2.1 hdg rfl (kk p e Rm s m args below meth c Qt C hret H locs ls hH hS hl)
theorem R_iconst {i : Int} {v : Int32} (hdg : decode cc pc = .ok (.iconst i, 1)) (hv : Int32.ofInt i = v) (kk : R G l y cc nL ret d mc ms Q (pc + 1) lv (.int v :: st) w k n) : R G l y cc nL ret d mc ms Q pc lv st w k n := by
  intro p e Rm s m args below meth c Qt C hret H locs ls hH hS hl
  exact lv_iconst C.1 C.2.1 hdg hv (kk p e Rm s m args below meth c Qt C hret H locs ls hH hS hl)
theorem R_bipush {i : Int} {v : Int32} (hdg : decode cc pc = .ok (.bipush i, 2)) (hv : (Int8.ofInt i).toInt32 = v) (kk : R G l y cc nL ret d mc ms Q (pc + 2) lv (.int v :: st) w k n) : R G l y cc nL ret d mc ms Q pc lv st w k n := by
  intro p e Rm s m args below meth c Qt C hret H locs ls hH hS hl
  exact lv_bipush C.1 C.2.1 hdg hv (kk p e Rm s m args below meth c Qt C hret H locs ls hH hS hl)
theorem R_sipush {i : Int} {v : Int32} (hdg : decode cc pc = .ok (.sipush i, 3)) (hv : (Int16.ofInt i).toInt32 = v) (kk : R G l y cc nL ret d mc ms Q (pc + 3) lv (.int v :: st) w k n) : R G l y cc nL ret d mc ms Q pc lv st w k n := by
  intro p e Rm s m args below meth c Qt C hret H locs ls hH hS hl
  exact lv_sipush C.1 C.2.1 hdg hv (kk p e Rm s m args below meth c Qt C hret H locs ls hH hS hl)
theorem R_lconst {i : Fin 2} {v : Int64} (hdg : decode cc pc = .ok (.lconst i, 1)) (hv : Int64.ofNat (i : Nat) = v) (kk : R G l y cc nL ret d mc ms Q (pc + 1) lv (.long v :: st) w k n) : R G l y cc nL ret d mc ms Q pc lv st w k n := by
  intro p e Rm s m args below meth c Qt C hret H locs ls hH hS hl
  exact lv_lconst C.1 C.2.1 hdg hv (kk p e Rm s m args below meth c Qt C hret H locs ls hH hS hl)
theorem R_dup {v : Value} (hdg : decode cc pc = .ok (.dup, 1)) (hv : v.category = 1) (kk : R G l y cc nL ret d mc ms Q (pc + 1) lv (v :: v :: st) w k n) : R G l y cc nL ret d mc ms Q pc lv (v :: st) w k n := by
  intro p e Rm s m args below meth c Qt C hret H locs ls hH hS hl
  exact lv_dup C.1 C.2.1 hdg ((tv_cat G v).trans hv) (kk p e Rm s m args below meth c Qt C hret H locs ls hH hS hl)
theorem R_pop {v : Value} (hdg : decode cc pc = .ok (.pop, 1)) (hv : v.category = 1) (kk : R G l y cc nL ret d mc ms Q (pc + 1) lv st w k n) : R G l y cc nL ret d mc ms Q pc lv (v :: st) w k n := by
  intro p e Rm s m args below meth c Qt C hret H locs ls hH hS hl
  exact lv_pop C.1 C.2.1 hdg ((tv_cat G v).trans hv) (kk p e Rm s m args below meth c Qt C hret H locs ls hH hS hl)
theorem R_dup2 {v u : Value} (hdg : decode cc pc = .ok (.dup2, 1)) (hv : v.category = 1) (hu : u.category = 1) (kk : R G l y cc nL ret d mc ms Q (pc + 1) lv (v :: u :: v :: u :: st) w k n) : R G l y cc nL ret d mc ms Q pc lv (v :: u :: st) w k n := by
  intro p e Rm s m args below meth c Qt C hret H locs ls hH hS hl
  exact lv_dup2_11 C.1 C.2.1 hdg ((tv_cat G v).trans hv) ((tv_cat G u).trans hu) (kk p e Rm s m args below meth c Qt C hret H locs ls hH hS hl)
theorem R_ifeq {a : Int32} {off : Int} (tgt : Nat) (hdg : decode cc pc = .ok (.ifCond .eq off, 3)) (ht : (pc : Int) + off = (tgt : Int)) (kt : a = 0 → R G l y cc nL ret d mc ms Q tgt lv st w k n) (kf : ¬ a = 0 → R G l y cc nL ret d mc ms Q (pc + 3) lv st w k n) : R G l y cc nL ret d mc ms Q pc lv (.int a :: st) w k n := by
  intro p e Rm s m args below meth c Qt C hret H locs ls hH hS hl
  exact lv_if_eq C.1 C.2.1 hdg ht (fun h => kt h p e Rm s m args below meth c Qt C hret H locs ls hH hS hl) (fun h => kf h p e Rm s m args below meth c Qt C hret H locs ls hH hS hl)
theorem R_iflt {a : Int32} {off : Int} (tgt : Nat) (hdg : decode cc pc = .ok (.ifCond .lt off, 3)) (ht : (pc : Int) + off = (tgt : Int)) (kt : a < 0 → R G l y cc nL ret d mc ms Q tgt lv st w k n) (kf : ¬ a < 0 → R G l y cc nL ret d mc ms Q (pc + 3) lv st w k n) : R G l y cc nL ret d mc ms Q pc lv (.int a :: st) w k n := by
  intro p e Rm s m args below meth c Qt C hret H locs ls hH hS hl
  exact lv_if_lt C.1 C.2.1 hdg ht (fun h => kt h p e Rm s m args below meth c Qt C hret H locs ls hH hS hl) (fun h => kf h p e Rm s m args below meth c Qt C hret H locs ls hH hS hl)
theorem R_ifge {a : Int32} {off : Int} (tgt : Nat) (hdg : decode cc pc = .ok (.ifCond .ge off, 3)) (ht : (pc : Int) + off = (tgt : Int)) (kt : 0 ≤ a → R G l y cc nL ret d mc ms Q tgt lv st w k n) (kf : ¬ 0 ≤ a → R G l y cc nL ret d mc ms Q (pc + 3) lv st w k n) : R G l y cc nL ret d mc ms Q pc lv (.int a :: st) w k n := by
  intro p e Rm s m args below meth c Qt C hret H locs ls hH hS hl
  exact lv_if_ge C.1 C.2.1 hdg ht (fun h => kt h p e Rm s m args below meth c Qt C hret H locs ls hH hS hl) (fun h => kf h p e Rm s m args below meth c Qt C hret H locs ls hH hS hl)
theorem R_ifgt {a : Int32} {off : Int} (tgt : Nat) (hdg : decode cc pc = .ok (.ifCond .gt off, 3)) (ht : (pc : Int) + off = (tgt : Int)) (kt : 0 < a → R G l y cc nL ret d mc ms Q tgt lv st w k n) (kf : ¬ 0 < a → R G l y cc nL ret d mc ms Q (pc + 3) lv st w k n) : R G l y cc nL ret d mc ms Q pc lv (.int a :: st) w k n := by
  intro p e Rm s m args below meth c Qt C hret H locs ls hH hS hl
  exact lv_if_gt C.1 C.2.1 hdg ht (fun h => kt h p e Rm s m args below meth c Qt C hret H locs ls hH hS hl) (fun h => kf h p e Rm s m args below meth c Qt C hret H locs ls hH hS hl)
theorem R_ifle {a : Int32} {off : Int} (tgt : Nat) (hdg : decode cc pc = .ok (.ifCond .le off, 3)) (ht : (pc : Int) + off = (tgt : Int)) (kt : a ≤ 0 → R G l y cc nL ret d mc ms Q tgt lv st w k n) (kf : ¬ a ≤ 0 → R G l y cc nL ret d mc ms Q (pc + 3) lv st w k n) : R G l y cc nL ret d mc ms Q pc lv (.int a :: st) w k n := by
  intro p e Rm s m args below meth c Qt C hret H locs ls hH hS hl
  exact lv_if_le C.1 C.2.1 hdg ht (fun h => kt h p e Rm s m args below meth c Qt C hret H locs ls hH hS hl) (fun h => kf h p e Rm s m args below meth c Qt C hret H locs ls hH hS hl)
theorem R_iceq {a b : Int32} {off : Int} (tgt : Nat) (hdg : decode cc pc = .ok (.if_icmp .eq off, 3)) (ht : (pc : Int) + off = (tgt : Int)) (kt : a = b → R G l y cc nL ret d mc ms Q tgt lv st w k n) (kf : ¬ a = b → R G l y cc nL ret d mc ms Q (pc + 3) lv st w k n) : R G l y cc nL ret d mc ms Q pc lv (.int b :: .int a :: st) w k n := by
  intro p e Rm s m args below meth c Qt C hret H locs ls hH hS hl
  exact lv_icmp_eq C.1 C.2.1 hdg ht (fun h => kt h p e Rm s m args below meth c Qt C hret H locs ls hH hS hl) (fun h => kf h p e Rm s m args below meth c Qt C hret H locs ls hH hS hl)
theorem R_iclt {a b : Int32} {off : Int} (tgt : Nat) (hdg : decode cc pc = .ok (.if_icmp .lt off, 3)) (ht : (pc : Int) + off = (tgt : Int)) (kt : a < b → R G l y cc nL ret d mc ms Q tgt lv st w k n) (kf : ¬ a < b → R G l y cc nL ret d mc ms Q (pc + 3) lv st w k n) : R G l y cc nL ret d mc ms Q pc lv (.int b :: .int a :: st) w k n := by
  intro p e Rm s m args below meth c Qt C hret H locs ls hH hS hl
  exact lv_icmp_lt C.1 C.2.1 hdg ht (fun h => kt h p e Rm s m args below meth c Qt C hret H locs ls hH hS hl) (fun h => kf h p e Rm s m args below meth c Qt C hret H locs ls hH hS hl)
theorem R_icge {a b : Int32} {off : Int} (tgt : Nat) (hdg : decode cc pc = .ok (.if_icmp .ge off, 3)) (ht : (pc : Int) + off = (tgt : Int)) (kt : b ≤ a → R G l y cc nL ret d mc ms Q tgt lv st w k n) (kf : ¬ b ≤ a → R G l y cc nL ret d mc ms Q (pc + 3) lv st w k n) : R G l y cc nL ret d mc ms Q pc lv (.int b :: .int a :: st) w k n := by
  intro p e Rm s m args below meth c Qt C hret H locs ls hH hS hl
  exact lv_icmp_ge C.1 C.2.1 hdg ht (fun h => kt h p e Rm s m args below meth c Qt C hret H locs ls hH hS hl) (fun h => kf h p e Rm s m args below meth c Qt C hret H locs ls hH hS hl)
theorem R_icgt {a b : Int32} {off : Int} (tgt : Nat) (hdg : decode cc pc = .ok (.if_icmp .gt off, 3)) (ht : (pc : Int) + off = (tgt : Int)) (kt : b < a → R G l y cc nL ret d mc ms Q tgt lv st w k n) (kf : ¬ b < a → R G l y cc nL ret d mc ms Q (pc + 3) lv st w k n) : R G l y cc nL ret d mc ms Q pc lv (.int b :: .int a :: st) w k n := by
  intro p e Rm s m args below meth c Qt C hret H locs ls hH hS hl
  exact lv_icmp_gt C.1 C.2.1 hdg ht (fun h => kt h p e Rm s m args below meth c Qt C hret H locs ls hH hS hl) (fun h => kf h p e Rm s m args below meth c Qt C hret H locs ls hH hS hl)
theorem R_icle {a b : Int32} {off : Int} (tgt : Nat) (hdg : decode cc pc = .ok (.if_icmp .le off, 3)) (ht : (pc : Int) + off = (tgt : Int)) (kt : a ≤ b → R G l y cc nL ret d mc ms Q tgt lv st w k n) (kf : ¬ a ≤ b → R G l y cc nL ret d mc ms Q (pc + 3) lv st w k n) : R G l y cc nL ret d mc ms Q pc lv (.int b :: .int a :: st) w k n := by
  intro p e Rm s m args below meth c Qt C hret H locs ls hH hS hl
  exact lv_icmp_le C.1 C.2.1 hdg ht (fun h => kt h p e Rm s m args below meth c Qt C hret H locs ls hH hS hl) (fun h => kf h p e Rm s m args below meth c Qt C hret H locs ls hH hS hl)
theorem R_ifne {a : Int32} {off : Int} (tgt : Nat) (hdg : decode cc pc = .ok (.ifCond .ne off, 3)) (ht : (pc : Int) + off = (tgt : Int)) (kt : ¬ a = 0 → R G l y cc nL ret d mc ms Q tgt lv st w k n) (kf : a = 0 → R G l y cc nL ret d mc ms Q (pc + 3) lv st w k n) : R G l y cc nL ret d mc ms Q pc lv (.int a :: st) w k n := by
  intro p e Rm s m args below meth c Qt C hret H locs ls hH hS hl
  exact lv_if_ne C.1 C.2.1 hdg ht (fun h => kt h p e Rm s m args below meth c Qt C hret H locs ls hH hS hl) (fun h => kf h p e Rm s m args below meth c Qt C hret H locs ls hH hS hl)
theorem R_icne {a b : Int32} {off : Int} (tgt : Nat) (hdg : decode cc pc = .ok (.if_icmp .ne off, 3)) (ht : (pc : Int) + off = (tgt : Int)) (kt : ¬ a = b → R G l y cc nL ret d mc ms Q tgt lv st w k n) (kf : a = b → R G l y cc nL ret d mc ms Q (pc + 3) lv st w k n) : R G l y cc nL ret d mc ms Q pc lv (.int b :: .int a :: st) w k n := by
  intro p e Rm s m args below meth c Qt C hret H locs ls hH hS hl
  exact lv_icmp_ne C.1 C.2.1 hdg ht (fun h => kt h p e Rm s m args below meth c Qt C hret H locs ls hH hS hl) (fun h => kf h p e Rm s m args below meth c Qt C hret H locs ls hH hS hl)
theorem R_goto {off : Int} (tgt : Nat) (hdg : decode cc pc = .ok (.goto off, 3)) (ht : (pc : Int) + off = (tgt : Int)) (kk : R G l y cc nL ret d mc ms Q tgt lv st w k n) : R G l y cc nL ret d mc ms Q pc lv st w k n := by
  intro p e Rm s m args below meth c Qt C hret H locs ls hH hS hl
  exact lv_goto C.1 C.2.1 hdg ht (kk p e Rm s m args below meth c Qt C hret H locs ls hH hS hl)
theorem R_tin {dflt lo hi : Int} {offs : Array Int} {len : Nat} {a : Int32} {off : Int} (tgt : Nat) (hdg : decode cc pc = .ok (.tableswitch dflt lo hi offs, len)) (h1 : ¬ a.toInt < lo) (h2 : ¬ hi < a.toInt) (ho : offs[(a.toInt - lo).toNat]? = some off) (ht : (pc : Int) + off = (tgt : Int)) (kk : R G l y cc nL ret d mc ms Q tgt lv st w k n) : R G l y cc nL ret d mc ms Q pc lv (.int a :: st) w k n := by
  intro p e Rm s m args below meth c Qt C hret H locs ls hH hS hl
  exact lv_tableIn C.1 C.2.1 hdg h1 h2 ho ht (kk p e Rm s m args below meth c Qt C hret H locs ls hH hS hl)
theorem R_tout {dflt lo hi : Int} {offs : Array Int} {len : Nat} {a : Int32} (tgt : Nat) (hdg : decode cc pc = .ok (.tableswitch dflt lo hi offs, len)) (h : a.toInt < lo ∨ hi < a.toInt) (ht : (pc : Int) + dflt = (tgt : Int)) (kk : R G l y cc nL ret d mc ms Q tgt lv st w k n) : R G l y cc nL ret d mc ms Q pc lv (.int a :: st) w k n := by
  intro p e Rm s m args below meth c Qt C hret H locs ls hH hS hl
  exact lv_tableOut C.1 C.2.1 hdg h ht (kk p e Rm s m args below meth c Qt C hret H locs ls hH hS hl)
theorem R_iret {v : Int32} {ty : FieldType} (hdg : decode cc pc = .ok (.ireturn, 1)) (hr : ret = some ty) (hv : narrow ty (.int v) = .int v) (hk : k ≤ mc) (hn : n ≤ ms) (hq : Q (some (.int v)) w) : R G l y cc nL ret d mc ms Q pc lv [.int v] w k n := by
  intro p e Rm s m args below meth c Qt C hret H locs ls hH hS hl
  exact hret (some (.int v)) w H locs k n pc ls hq hH hS hk hn hdg ⟨ty, hr, hv⟩
theorem R_lret {v : Int64} (hdg : decode cc pc = .ok (.lreturn, 1)) (hr : ret = some .long) (hk : k ≤ mc) (hn : n ≤ ms) (hq : Q (some (.long v)) w) : R G l y cc nL ret d mc ms Q pc lv [.long v] w k n := by
  intro p e Rm s m args below meth c Qt C hret H locs ls hH hS hl
  exact hret (some (.long v)) w H locs k n pc ls hq hH hS hk hn hdg hr
theorem R_vret (hdg : decode cc pc = .ok (.return_, 1)) (hr : ret = none) (hk : k ≤ mc) (hn : n ≤ ms) (hq : Q none w) : R G l y cc nL ret d mc ms Q pc lv [] w k n := by
  intro p e Rm s m args below meth c Qt C hret H locs ls hH hS hl
  exact hret none w H locs k n pc ls hq hH hS hk hn hdg hr
theorem R_ldc {index : Nat} {v : Int32} (hc : (Jvm.Cond.constant y.cls index v) ∈ TW) (hdg : decode cc pc = .ok (.ldc index, 2)) (kk : R G l y cc nL ret d mc ms Q (pc + 2) lv (.int v :: st) w k n) : R G l y cc nL ret d mc ms Q pc lv st w k n := by
  intro p e Rm s m args below meth c Qt C hret H locs ls hH hS hl
  exact lv_ldc C.1 C.2.1 C.2.2.2.1 (C.2.2.2.2.1 _ hc) hdg (kk p e Rm s m args below meth c Qt C hret H locs ls hH hS hl)
theorem R_ldc2 {index : Nat} {v : Int64} (hc : (Jvm.Cond.constantLong y.cls index v) ∈ TW) (hdg : decode cc pc = .ok (.ldc2_w index, 3)) (kk : R G l y cc nL ret d mc ms Q (pc + 3) lv (.long v :: st) w k n) : R G l y cc nL ret d mc ms Q pc lv st w k n := by
  intro p e Rm s m args below meth c Qt C hret H locs ls hH hS hl
  exact lv_ldc2 C.1 C.2.1 C.2.2.2.1 (C.2.2.2.2.1 _ hc) hdg (kk p e Rm s m args below meth c Qt C hret H locs ls hH hS hl)
theorem R_iload_n {j : Fin 4} {i : Nat} {x : Int32} (hdg : decode cc pc = .ok (.iload_n j, 1)) (hj : (j : Nat) = i) (h : lv[i]? = some (some (.int x))) (kk : R G l y cc nL ret d mc ms Q (pc + 1) lv (.int x :: st) w k n) : R G l y cc nL ret d mc ms Q pc lv st w k n := by
  intro p e Rm s m args below meth c Qt C hret H locs ls hH hS hl
  exact lv_iload_n C.1 C.2.1 hdg hj (hl.2.2 _ _ h) (kk p e Rm s m args below meth c Qt C hret H locs ls hH hS hl)
theorem R_iload {i : Nat} {x : Int32} (hdg : decode cc pc = .ok (.iload i, 2)) (h : lv[i]? = some (some (.int x))) (kk : R G l y cc nL ret d mc ms Q (pc + 2) lv (.int x :: st) w k n) : R G l y cc nL ret d mc ms Q pc lv st w k n := by
  intro p e Rm s m args below meth c Qt C hret H locs ls hH hS hl
  exact lv_iload C.1 C.2.1 hdg (hl.2.2 _ _ h) (kk p e Rm s m args below meth c Qt C hret H locs ls hH hS hl)
theorem R_lload_n {j : Fin 4} {i : Nat} {x : Int64} (hdg : decode cc pc = .ok (.lload_n j, 1)) (hj : (j : Nat) = i) (h : lv[i]? = some (some (.long x))) (kk : R G l y cc nL ret d mc ms Q (pc + 1) lv (.long x :: st) w k n) : R G l y cc nL ret d mc ms Q pc lv st w k n := by
  intro p e Rm s m args below meth c Qt C hret H locs ls hH hS hl
  exact lv_lload_n C.1 C.2.1 hdg hj (hl.2.2 _ _ h) (kk p e Rm s m args below meth c Qt C hret H locs ls hH hS hl)
theorem R_lload {i : Nat} {x : Int64} (hdg : decode cc pc = .ok (.lload i, 2)) (h : lv[i]? = some (some (.long x))) (kk : R G l y cc nL ret d mc ms Q (pc + 2) lv (.long x :: st) w k n) : R G l y cc nL ret d mc ms Q pc lv st w k n := by
  intro p e Rm s m args below meth c Qt C hret H locs ls hH hS hl
  exact lv_lload C.1 C.2.1 hdg (hl.2.2 _ _ h) (kk p e Rm s m args below meth c Qt C hret H locs ls hH hS hl)
theorem R_aload_n {j : Fin 4} {i : Nat} {x : Nat} (hdg : decode cc pc = .ok (.aload_n j, 1)) (hj : (j : Nat) = i) (h : lv[i]? = some (some (.ref x))) (kk : R G l y cc nL ret d mc ms Q (pc + 1) lv (.ref x :: st) w k n) : R G l y cc nL ret d mc ms Q pc lv st w k n := by
  intro p e Rm s m args below meth c Qt C hret H locs ls hH hS hl
  exact lv_aload_n C.1 C.2.1 hdg hj (hl.2.2 _ _ h) (kk p e Rm s m args below meth c Qt C hret H locs ls hH hS hl)
theorem R_aload {i : Nat} {x : Nat} (hdg : decode cc pc = .ok (.aload i, 2)) (h : lv[i]? = some (some (.ref x))) (kk : R G l y cc nL ret d mc ms Q (pc + 2) lv (.ref x :: st) w k n) : R G l y cc nL ret d mc ms Q pc lv st w k n := by
  intro p e Rm s m args below meth c Qt C hret H locs ls hH hS hl
  exact lv_aload C.1 C.2.1 hdg (hl.2.2 _ _ h) (kk p e Rm s m args below meth c Qt C hret H locs ls hH hS hl)
end RULES
def asL (G : vG) (lv : List (Option Value)) : List (Nat × Value) := lv.zipIdx.filterMap (fun q => q.1.map (fun v => (q.2, tv G v)))
theorem asL_mem {G : vG} {lv : List (Option Value)} {i : Nat} {v : Value} (h : lv[i]? = some (some v)) : (i, tv G v) ∈ asL G lv := by
  unfold asL
  refine List.mem_filterMap.mpr ⟨(some v, i), ?_, rfl⟩
  exact List.mem_zipIdx_iff_getElem?.mpr h
theorem asL_inv {G : vG} {lv : List (Option Value)} {q : Nat × Value} (h : q ∈ asL G lv) : ∃ v, lv[q.1]? = some (some v) ∧ q.2 = tv G v := by
  unfold asL at h
  obtain ⟨⟨o, i⟩, h1, h2⟩ := List.mem_filterMap.mp h
  have h3 := List.mem_zipIdx_iff_getElem?.mp h1
  cases o with
  | none => simp at h2
  | some v =>
    have : (i, tv G v) = q := by simpa using h2
    subst this
    exact ⟨v, h3, rfl⟩
theorem hasL_as {G : vG} {ls : Array Slot} {nL : Nat} {lv : List (Option Value)} (h : hasL G ls nL lv) : lv_has ls nL (asL G lv) := by
  refine ⟨h.1, h.2.1, fun q hq => ?_⟩
  obtain ⟨v, h1, h2⟩ := asL_inv hq
  rw [h2]
  exact h.2.2 _ _ h1
/-- one store of a value of one slot -/
theorem hasL_set1 {G : vG} {ls : Array Slot} {nL i : Nat} {lv lv' : List (Option Value)} {x : Value} (h : lv_has ls nL ((i, tv G x) :: (asL G lv).filter (fun q => !(q.1 == i) && !(q.1 + 1 == i && q.2.category == 2))))
    (h2 : ∀ (j : Nat) (v : Value), lv'[j]? = some (some v) → (j = i ∧ v = x) ∨ (j ≠ i ∧ lv[j]? = some (some v) ∧ (j + 1 = i → v.category ≠ 2))) : hasL G ls nL lv' := by
  refine ⟨h.1, h.2.1, fun j v hj => ?_⟩
  rcases h2 j v hj with ⟨rfl, rfl⟩ | ⟨h3, h4, h5⟩
  · exact h.2.2 _ List.mem_cons_self
  · refine h.2.2 (j, tv G v) (List.mem_cons_of_mem _ (List.mem_filter.mpr ⟨asL_mem h4, ?_⟩))
    by_cases h6 : j + 1 = i
    · simp [h3, tv_cat, h5 h6]
    · simp [h3, h6]
theorem hasL_set2 {G : vG} {ls : Array Slot} {nL i : Nat} {lv lv' : List (Option Value)} {x : Value} (h : lv_has ls nL ((i, tv G x) :: (asL G lv).filter (fun q => !(q.1 == i) && (!(q.1 == i + 1) && !(q.1 + 1 == i && q.2.category == 2)))))
    (h2 : ∀ (j : Nat) (v : Value), lv'[j]? = some (some v) → (j = i ∧ v = x) ∨ (j ≠ i ∧ j ≠ i + 1 ∧ lv[j]? = some (some v) ∧ (j + 1 = i → v.category ≠ 2))) : hasL G ls nL lv' := by
  refine ⟨h.1, h.2.1, fun j v hj => ?_⟩
  rcases h2 j v hj with ⟨rfl, rfl⟩ | ⟨h3, h3', h4, h5⟩
  · exact h.2.2 _ List.mem_cons_self
  · refine h.2.2 (j, tv G v) (List.mem_cons_of_mem _ (List.mem_filter.mpr ⟨asL_mem h4, ?_⟩))
    by_cases h6 : j + 1 = i
    · simp [h3, h3', tv_cat, h5 h6]
    · simp [h3, h3', h6]
end
section
/-! reading and writing cells -/
section WORLD
variable {G : vG} {l : Launch} {y : MethodName} {cc : ByteArray} {nL : Nat} {ret : Option FieldType} {d mc ms : Nat} {Q : Option Value → VW → Prop} {pc : Nat} {lv : List (Option Value)} {st : List Value} {w : VW} {k n : Nat}
theorem R_get {C ref : String} {T : u_T} {N ci index a j : Nat} {fs : List Value} {v : Value} (hc : vwCl[ci]? = some (C, T, N)) (hin : ∀ w ∈ u_ws C T N, w ∈ TW) (hj : j < N) (hlink : Cond.fieldLink y.cls index ref (T j).2.1 (T j).2.2.1 ∈ TW) (hsame : (T j).1 = ref)
    (hdg : decode cc pc = .ok (.getfield index, 3)) (he : w[a]? = some (.inr (ci, fs))) (hv : fs[j]? = some v) (kk : R G l y cc nL ret d mc ms Q (pc + 3) lv (v :: st) w k n) : R G l y cc nL ret d mc ms Q pc lv (.ref a :: st) w k n := by
  intro p e Rm s m args below meth c Qt C0 hret H locs ls hH hS hl
  refine va_get (D := gD G) (ci := ci) (v := tv G v) C0.1 C0.2.1 C0.2.2.2.2.1 hin C0.2.2.2.1 C0.2.2.2.2.2.1.1 hH.2.2 a (rw_get he) hc j hj (C0.2.2.2.2.1 _ hlink) (fun _ h => by rw [hsame] at h; exact h) ?_ hdg (kk p e Rm s m args below meth c Qt C0 hret H locs ls hH hS hl)
  rw [List.getElem?_map, hv]
  rfl
theorem fits_tv {G : vG} {ty : FieldType} {v : Value} (h : fits ty v = true) : fits ty (tv G v) = true := by
  cases v <;> first | exact h | (cases ty <;> first | exact h | rfl)
theorem narrow_tv {G : vG} {ty : FieldType} {v : Value} (h : narrow ty v = v) : narrow ty (tv G v) = tv G v := by
  cases v <;> first | exact h | (cases ty <;> first | exact h | rfl)
theorem hp_set {G : vG} {w : VW} {H H1 : Heap} {a : Nat} {e : VE} (hH : hpOK G w H) (hz : H1.size = H.size) (hP : va_P (gD G) vwCl ((rw' G w).set a (ad G a, te G e)) H1) : hpOK G (w.set a e) H1 := by
  refine ⟨by rw [hz, List.length_set]; exact hH.1, by rw [List.length_set]; exact hH.2.1, ?_⟩
  rw [← rw_set]
  exact hP
theorem ad_Ar {G : vG} {w : VW} {H : Heap} {a : Nat} {e : VE} (hH : hpOK G w H) (he : w[a]? = some e) : Ar G (ad G a) := (rw_D hH.2.1).2 a _ (rw_get he)
/-- a field that isn't final is written -/
theorem R_put {C ref : String} {T : u_T} {ty0 : Nat → FieldType} {N ci index a j : Nat} {fs : List Value} {v : Value} (hc : vwCl[ci]? = some (C, T, N)) (hin : ∀ w ∈ u_ws C T N, w ∈ TW) (hty : ∀ k, k < N → parseFieldDescriptor (T k).2.2.1 = some (ty0 k)) (hnm : ∀ a, a < N → ∀ b, b < N → a ≠ b → (T a).2.1 ≠ (T b).2.1) (hj : j < N) (hlink : Cond.fieldLink y.cls index ref (T j).2.1 (T j).2.2.1 ∈ TW) (hsame : (T j).1 = ref) (hfin : (T j).2.2.2 = false)
    (hn : narrow (ty0 j) v = v) (hfit : fits (ty0 j) v = true)
    (hdg : decode cc pc = .ok (.putfield index, 3)) (he : w[a]? = some (.inr (ci, fs))) (hl0 : j < fs.length) (kk : R G l y cc nL ret d mc ms Q (pc + 3) lv st (w.set a (.inr (ci, fs.set j v))) k n) : R G l y cc nL ret d mc ms Q pc lv (v :: .ref a :: st) w k n := by
  intro p e Rm s m args below meth c Qt C0 hret H locs ls hH hS hl
  have hts := C0.2.2.2.2.1
  have hK := C0.2.2.2.2.2.1.1
  have hP := hH.2.2
  have hD : va_D (Ar G) (rw' G w) := rw_D hH.2.1
  have he' := rw_get (G := G) he
  have hap := va_apart (own := y.cls) hts hin ty0 hty hnm hK hc
  obtain ⟨r, h1, cell, q1, q2, q3, q4⟩ := hP a _ he'
  have hr : r = (C, T, N) := Option.some.inj (h1.symm.trans hc)
  subst hr
  obtain ⟨hSl, hfc, kC, hkC, hkind⟩ := hK.1 ci _ hc
  obtain ⟨cf, kf, fi, f, hi, hsl⟩ := hSl j hj
  have hlay := hts _ (hin _ (u_in_lay hj))
  unfold u_lay at hlay
  rw [if_neg (by rw [hfin]; decide)] at hlay
  have hst := (u_facts hfc hkC (u_lays hts hin hj) hi).1
  have h6 := u_store hfc hkC hkind hlay hi (hty j hj) (narrow_tv (G := G) hn) (fits_tv (G := G) hfit)
  refine W.putK C0.1 C0.2.1 (f := f) ⟨C0.2.2.2.1, hts _ hlink, ⟨_, _, _, by rw [hsame] at hi; exact hi⟩, hst⟩ (by rw [q2]; exact h6) q1 q3 (by rw [hsl]; exact k2_hasslot (q4 j hj)) rfl rfl hdg fun H' e1 e2 e3 => ?_
  rw [hsl] at e1 ⊢
  have hll : j < (fs.map (tv G)).length := by rw [List.length_map]; exact hl0
  have hP' := hP.set hD he' (e := .inr (ci, (fs.map (tv G)).set j (tv G v))) ⟨_, hc, t_OB.to (V := updV (vp_V (fs.map (tv G))) j (tv G v)) ⟨_, e1, q2, q3, t_set q4 hap hj (tv G v)⟩ (fun i _ => vp_updV_set hll (tv G v) i)⟩ e3
  refine kk p e Rm s m args below meth c Qt C0 hret H' _ ls (hp_set hH e2 ?_) (hS.put e2 e3 (ad_Ar hH he)) hl
  show va_P (gD G) vwCl ((rw' G w).set a (ad G a, .inr (ci, (fs.set j v).map (tv G)))) H'
  rw [List.map_set]
  exact hP'
/-- a final field, in its constructor -/
theorem R_putF {C ref : String} {T : u_T} {ty0 : Nat → FieldType} {N ci index a j : Nat} {fs : List Value} {v : Value} (hc : vwCl[ci]? = some (C, T, N)) (hin : ∀ w ∈ u_ws C T N, w ∈ TW) (hty : ∀ k, k < N → parseFieldDescriptor (T k).2.2.1 = some (ty0 k)) (hnm : ∀ a, a < N → ∀ b, b < N → a ≠ b → (T a).2.1 ≠ (T b).2.1) (hj : j < N) (hlink : Cond.fieldLink y.cls index ref (T j).2.1 (T j).2.2.1 ∈ TW) (hsame : (T j).1 = ref) (hfin : (T j).2.2.2 = true) (hcl : (T j).1 = y.cls) (hini : y.name = "<init>")
    (hn : narrow (ty0 j) v = v) (hfit : fits (ty0 j) v = true)
    (hdg : decode cc pc = .ok (.putfield index, 3)) (he : w[a]? = some (.inr (ci, fs))) (hl0 : j < fs.length) (kk : R G l y cc nL ret d mc ms Q (pc + 3) lv st (w.set a (.inr (ci, fs.set j v))) k n) : R G l y cc nL ret d mc ms Q pc lv (v :: .ref a :: st) w k n := by
  intro p e Rm s m args below meth c Qt C0 hret H locs ls hH hS hl
  have hts := C0.2.2.2.2.1
  have hK := C0.2.2.2.2.2.1.1
  have hP := hH.2.2
  have hD : va_D (Ar G) (rw' G w) := rw_D hH.2.1
  have he' := rw_get (G := G) he
  have hap := va_apart (own := y.cls) hts hin ty0 hty hnm hK hc
  obtain ⟨r, h1, cell, q1, q2, q3, q4⟩ := hP a _ he'
  have hr : r = (C, T, N) := Option.some.inj (h1.symm.trans hc)
  subst hr
  obtain ⟨hSl, hfc, kC, hkC, hkind⟩ := hK.1 ci _ hc
  obtain ⟨cf, kf, fi, f, hi, hsl⟩ := hSl j hj
  have hlay := hts _ (hin _ (u_in_lay hj))
  unfold u_lay at hlay
  rw [if_pos hfin] at hlay
  have hst := (u_facts hfc hkC (u_lays hts hin hj) hi).1
  have hcf : m.cls = cf := by
    obtain ⟨_, _, c', _, _, _, -, -, hf', -, -, -, hown2, -⟩ := Cond.laysFinal_spec hlay
    have e1 : c' = cf := by have := hi.symm.trans hf'; simp at this; exact this.1.symm
    rw [hcl] at hown2
    rw [← e1]; exact Option.some.inj (C0.2.2.2.1.symm.trans hown2)
  have h6 := u_fits hfc hkC hkind (Or.inr hlay) hi (hty j hj) (narrow_tv (G := G) hn) (fits_tv (G := G) hfit)
  refine W.putFinK C0.1 C0.2.1 C0.2.2.2.1 (hts _ hlink) (by rw [hsame] at hi; exact hi) hst hcf (C0.2.2.2.2.2.2.2.2.2.2.trans hini) (by rw [q2]; exact h6) q1 q3 (by rw [hsl]; exact k2_hasslot (q4 j hj)) rfl rfl hdg fun H' e1 e2 e3 => ?_
  rw [hsl] at e1 ⊢
  have hll : j < (fs.map (tv G)).length := by rw [List.length_map]; exact hl0
  have hP' := hP.set hD he' (e := .inr (ci, (fs.map (tv G)).set j (tv G v))) ⟨_, hc, t_OB.to (V := updV (vp_V (fs.map (tv G))) j (tv G v)) ⟨_, e1, q2, q3, t_set q4 hap hj (tv G v)⟩ (fun i _ => vp_updV_set hll (tv G v) i)⟩ e3
  refine kk p e Rm s m args below meth c Qt C0 hret H' _ ls (hp_set hH e2 ?_) (hS.put e2 e3 (ad_Ar hH he)) hl
  show va_P (gD G) vwCl ((rw' G w).set a (ad G a, .inr (ci, (fs.set j v).map (tv G)))) H'
  rw [List.map_set]
  exact hP'
theorem R_iaload {a N : Nat} {f : Nat → Int32} {i : Int32} (hdg : decode cc pc = .ok (.iaload, 1)) (he : w[a]? = some (.inl (0, N, .inl f))) (hin : vp_in i N) (kk : R G l y cc nL ret d mc ms Q (pc + 1) lv (.int (f i.toNatClampNeg) :: st) w k n) : R G l y cc nL ret d mc ms Q pc lv (.int i :: .ref a :: st) w k n := by
  intro p e Rm s m args below meth c Qt C0 hret H locs ls hH hS hl
  exact va_iald C0.1 C0.2.1 C0.2.2.2.2.2.1.1 hH.2.2 a 0 (rw_get he) rfl hin hdg (kk p e Rm s m args below meth c Qt C0 hret H locs ls hH hS hl)
theorem R_baload {a N : Nat} {f : Nat → Int32} {i : Int32} (hdg : decode cc pc = .ok (.baload, 1)) (he : w[a]? = some (.inl (2, N, .inl f))) (hin : vp_in i N) (kk : R G l y cc nL ret d mc ms Q (pc + 1) lv (.int (f i.toNatClampNeg) :: st) w k n) : R G l y cc nL ret d mc ms Q pc lv (.int i :: .ref a :: st) w k n := by
  intro p e Rm s m args below meth c Qt C0 hret H locs ls hH hS hl
  exact va_zald C0.1 C0.2.1 C0.2.2.2.2.2.1.1 hH.2.2 a 2 (rw_get he) rfl hin hdg (kk p e Rm s m args below meth c Qt C0 hret H locs ls hH hS hl)
theorem R_laload {a N : Nat} {f : Nat → Int64} {i : Int32} (hdg : decode cc pc = .ok (.laload, 1)) (he : w[a]? = some (.inl (1, N, .inr (.inl f)))) (hin : vp_in i N) (kk : R G l y cc nL ret d mc ms Q (pc + 1) lv (.long (f i.toNatClampNeg) :: st) w k n) : R G l y cc nL ret d mc ms Q pc lv (.int i :: .ref a :: st) w k n := by
  intro p e Rm s m args below meth c Qt C0 hret H locs ls hH hS hl
  exact va_lald C0.1 C0.2.1 C0.2.2.2.2.2.1.1 hH.2.2 a 1 (rw_get he) rfl hin hdg (kk p e Rm s m args below meth c Qt C0 hret H locs ls hH hS hl)
/-- a row of an array of rows -/
theorem R_aaload {a N b : Nat} {f : Nat → Option Nat} {i : Int32} (hdg : decode cc pc = .ok (.aaload, 1)) (he : w[a]? = some (.inl (3, N, .inr (.inr (.inr (.inr f)))))) (hin : vp_in i N) (hv : f i.toNatClampNeg = some b) (kk : R G l y cc nL ret d mc ms Q (pc + 1) lv (.ref b :: st) w k n) : R G l y cc nL ret d mc ms Q pc lv (.int i :: .ref a :: st) w k n := by
  intro p e Rm s m args below meth c Qt C0 hret H locs ls hH hS hl
  have hK := C0.2.2.2.2.2.1.1
  have hlt : i.toNatClampNeg < N := Nat.not_le.mp fun q => hin (Or.inr q)
  have he' : (rw' G w)[a]? = some (ad G a, .inl (gA G 3, N, .inr (.inr (.inr (.inr (fun i => (f i).map (ad G))))))) := rw_get he
  have hcell := hH.2.2 a _ he'
  refine W.aald (v := .ref (ad G b)) (ty := .array .int) C0.1 C0.2.1 hcell ((hK.2 3 _ rfl).1 N (fun j => va_rf ((f j).map (ad G)))) rfl (fun q => by cases q) (by show ¬ (i < 0 ∨ (arrV _ _ _).slots.size ≤ _); rw [arrV_size]; exact hin) (by show (arrV _ _ _).slots[_]? = _; rw [arrV_read _ _ hlt]; show some (va_rf ((f i.toNatClampNeg).map (ad G))) = _; rw [hv]; rfl) rfl rfl hdg (kk p e Rm s m args below meth c Qt C0 hret H locs ls hH hS hl)
theorem R_iastore {a N : Nat} {f : Nat → Int32} {i x : Int32} (hdg : decode cc pc = .ok (.iastore, 1)) (he : w[a]? = some (.inl (0, N, .inl f))) (hin : vp_in i N) (kk : R G l y cc nL ret d mc ms Q (pc + 1) lv st (w.set a (.inl (0, N, .inl (upd f i.toNatClampNeg x)))) k n) : R G l y cc nL ret d mc ms Q pc lv (.int x :: .int i :: .ref a :: st) w k n := by
  intro p e Rm s m args below meth c Qt C0 hret H locs ls hH hS hl
  have hK := C0.2.2.2.2.2.1.1
  have hP := hH.2.2
  have hD : va_D (Ar G) (rw' G w) := rw_D hH.2.1
  have he' : (rw' G w)[a]? = some (ad G a, .inl (gA G 0, N, .inl f)) := rw_get he
  refine W.iast C0.1 C0.2.1 (hP a _ he') ((hK.2 0 _ rfl).1 N (fun j => .int (f j))) (fun q => by cases q) (by show ¬ (i < 0 ∨ (arrV _ _ _).slots.size ≤ _); rw [arrV_size]; exact hin) rfl rfl hdg fun H1 e1 z oq => ?_
  refine kk p e Rm s m args below meth c Qt C0 hret H1 _ ls (hp_set (e := .inl (0, N, .inl (upd f i.toNatClampNeg x))) hH z (hP.set hD he' (e := .inl (gA G 0, N, .inl (upd f i.toNatClampNeg x))) ?_ oq)) (hS.put z oq (ad_Ar hH he)) hl
  show H1[ad G a]? = some (vp_cell _ _)
  rw [e1]
  rw [vp_cell_i, vp_cell_i, arrV_store]
  congr 2
  funext q
  by_cases hq : q = i.toNatClampNeg
  · subst hq
    simp [updV, upd]
  · simp [updV, upd, hq]
theorem R_bastore {a N : Nat} {f : Nat → Int32} {i x : Int32} (hdg : decode cc pc = .ok (.bastore, 1)) (he : w[a]? = some (.inl (2, N, .inl f))) (hin : vp_in i N) (hx : vp_nar .boolean x = x) (kk : R G l y cc nL ret d mc ms Q (pc + 1) lv st (w.set a (.inl (2, N, .inl (upd f i.toNatClampNeg x)))) k n) : R G l y cc nL ret d mc ms Q pc lv (.int x :: .int i :: .ref a :: st) w k n := by
  intro p e Rm s m args below meth c Qt C0 hret H locs ls hH hS hl
  have hK := C0.2.2.2.2.2.1.1
  have hP := hH.2.2
  have hD : va_D (Ar G) (rw' G w) := rw_D hH.2.1
  have he' : (rw' G w)[a]? = some (ad G a, .inl (gA G 2, N, .inl f)) := rw_get he
  refine W.zast C0.1 C0.2.1 (hP a _ he') ((hK.2 2 _ rfl).1 N (fun j => .int (f j))) (fun q => by cases q) (by show ¬ (i < 0 ∨ (arrV _ _ _).slots.size ≤ _); rw [arrV_size]; exact hin) rfl rfl hdg fun H1 e1 z oq => ?_
  refine kk p e Rm s m args below meth c Qt C0 hret H1 _ ls (hp_set (e := .inl (2, N, .inl (upd f i.toNatClampNeg x))) hH z (hP.set hD he' (e := .inl (gA G 2, N, .inl (upd f i.toNatClampNeg x))) ?_ oq)) (hS.put z oq (ad_Ar hH he)) hl
  show H1[ad G a]? = some (vp_cell _ _)
  rw [e1]
  rw [vp_cell_i, vp_cell_i, arrV_store]
  congr 2
  funext q
  by_cases hq : q = i.toNatClampNeg
  · subst hq
    simp [updV, upd]
    rw [show narrow .boolean (.int x) = .int (vp_nar .boolean x) from rfl, hx]
  · simp [updV, upd, hq]
theorem R_lastore {a N : Nat} {f : Nat → Int64} {i : Int32} {x : Int64} (hdg : decode cc pc = .ok (.lastore, 1)) (he : w[a]? = some (.inl (1, N, .inr (.inl f)))) (hin : vp_in i N) (kk : R G l y cc nL ret d mc ms Q (pc + 1) lv st (w.set a (.inl (1, N, .inr (.inl (vp_updL f i.toNatClampNeg x))))) k n) : R G l y cc nL ret d mc ms Q pc lv (.long x :: .int i :: .ref a :: st) w k n := by
  intro p e Rm s m args below meth c Qt C0 hret H locs ls hH hS hl
  have hK := C0.2.2.2.2.2.1.1
  have hP := hH.2.2
  have hD : va_D (Ar G) (rw' G w) := rw_D hH.2.1
  have he' : (rw' G w)[a]? = some (ad G a, .inl (gA G 1, N, .inr (.inl f))) := rw_get he
  refine W.last C0.1 C0.2.1 (hP a _ he') ((hK.2 1 _ rfl).1 N (fun j => .long (f j))) (fun q => by cases q) (by show ¬ (i < 0 ∨ (arrV _ _ _).slots.size ≤ _); rw [arrV_size]; exact hin) rfl rfl hdg fun H1 e1 z oq => ?_
  refine kk p e Rm s m args below meth c Qt C0 hret H1 _ ls (hp_set (e := .inl (1, N, .inr (.inl (vp_updL f i.toNatClampNeg x)))) hH z (hP.set hD he' (e := .inl (gA G 1, N, .inr (.inl (vp_updL f i.toNatClampNeg x)))) ?_ oq)) (hS.put z oq (ad_Ar hH he)) hl
  show H1[ad G a]? = some (vp_cell _ _)
  rw [e1]
  rw [vp_cell_l, vp_cell_l, arrV_store]
  congr 2
  funext q
  by_cases hq : q = i.toNatClampNeg
  · subst hq
    simp [updV, vp_updL]
  · simp [updV, vp_updL, hq]
/-- the script, at place 1000200 -/
theorem R_slen (hdg : decode cc pc = .ok (.arraylength, 1)) (kk : R G l y cc nL ret d mc ms Q (pc + 1) lv (.int (nI (gL G)) :: st) w k n) : R G l y cc nL ret d mc ms Q pc lv (.ref 1000200 :: st) w k n := by
  intro p e Rm s m args below meth c Qt C0 hret H locs ls hH hS hl
  obtain ⟨-, -, -, -, -, -, hX, h8, h9, -⟩ := C0.2.2.2.2.2.1
  exact va_slen C0.1 C0.2.1 hX (Nat.lt_of_lt_of_le h8 h9) (Nat.not_le.mpr h8) hS hdg (kk p e Rm s m args below meth c Qt C0 hret H locs ls hH hS hl)
theorem R_sld {i : Int32} (hdg : decode cc pc = .ok (.iaload, 1)) (hin : vp_in i (gL G)) (kk : R G l y cc nL ret d mc ms Q (pc + 1) lv (.int (gX G i.toNatClampNeg) :: st) w k n) : R G l y cc nL ret d mc ms Q pc lv (.int i :: .ref 1000200 :: st) w k n := by
  intro p e Rm s m args below meth c Qt C0 hret H locs ls hH hS hl
  obtain ⟨-, -, -, -, -, -, hX, h8, h9, -⟩ := C0.2.2.2.2.2.1
  exact va_sld C0.1 C0.2.1 hX (Nat.lt_of_lt_of_le h8 h9) (Nat.not_le.mpr h8) hS hin hdg (kk p e Rm s m args below meth c Qt C0 hret H locs ls hH hS hl)
end WORLD
end
section
/-! calls, new objects, new arrays, Math -/
theorem tv_app (G : vG) (as st : List Value) : (as.reverse ++ st).map (tv G) = (as.map (tv G)).reverse ++ st.map (tv G) := by
  rw [List.map_append, List.map_reverse]
theorem Qm_blind {G : vG} {as : List Value} {w : VW} : FrameBlind (va_Pc (as.map (tv G)) (fun U => hpOK G w U.heap ∧ K9 G U U.heap)) := fun a U g mk q => ⟨q.1, q.2.1, q.2.2.call g mk a⟩
section CALLS
variable {G : vG} {l : Launch} {y : MethodName} {cc : ByteArray} {nL : Nat} {ret : Option FieldType} {d mc ms : Nat} {Q : Option Value → VW → Prop} {pc : Nat} {lv : List (Option Value)} {st : List Value} {w : VW} {k n : Nat}
theorem call_go {p : Program} {e : Env} {Rm : Room} {s : State} {m : MethodId} {args : Array Value} {below : List Frame} {meth : Method} {c : Code} {Qt : State → Prop} {H : Heap} {locs : List Loc} {k n mc2 ms2 : Nat} {ls : Array Slot} {st0 rest : List Value} {Q2 : Option Value → VW → Prop} {a : Array Value}
    (hr : va_Run p l e Rm s m args below meth c H locs k n mc2 ms2 (F0 m pc ls st0) rest (Qm G Q2 a) (Ar G)) (hS : va_S (Ar G) s.heap H locs)
    (kk : ∀ (r : Option Value) (w' : VW) (H1 : Heap) (locs1 : List Loc), Q2 r w' → hpOK G w' H1 → va_S (Ar G) s.heap H1 locs1 → W p l e Rm s m args below meth c H1 locs1 (k + mc2) (n + ms2) Qt (F0 m (pc + 3) ls ((r.map (tv G)).toList ++ rest))) : W p l e Rm s m args below meth c H locs k n Qt (F0 m pc ls st0) := by
  intro T hT X
  obtain ⟨v, st₀, t, T', L, h0, X', hL, e1, e2, ⟨⟨r, w', hv, hq, hp⟩, hz, hk⟩, stp⟩ := hr T hT X
  cases hv
  rw [h0] at hz hk
  obtain ⟨t2, a1, b1⟩ := kk r w' T'.heap (locs ++ L) hq (by rw [e1]; exact hp) ⟨Nat.le_trans hS.1 (by rw [e1]; exact hz), fun q h1 h2 => by rw [e1, hk q (Nat.lt_of_lt_of_le h1 hS.1) h2]; exact hS.2.1 q h1 h2, fun q hq => by
      rcases List.mem_append.mp hq with h | h
      · exact hS.2.2 q h
      · exact hL q h⟩ T' rfl X'
  exact ⟨t2, stp t2 a1, b1⟩
theorem K9_at {s U : State} {G : vG} {H : Heap} {locs : List Loc} (h : K9 G s s.heap) (hS : va_S (Ar G) s.heap H locs) (hU : U.heap = H) (hW : s.WarmedH U.vm) : K9 G U U.heap := by
  rw [hU]
  exact h.go hW hS.1 hS.2.1
theorem good_callee {y2 : MethodName} {cc2 : ByteArray} {nL2 : Nat} {ret2 : Option FieldType} (h : Cond.code y2 cc2 nL2 ret2 ∈ TW) : GoodIn TW (.code y2 cc2 nL2 ret2 :: TW) := by
  intro w hw
  rcases List.mem_cons.mp hw with rfl | hw
  · exact ⟨h, TW_good _ h⟩
  · exact ⟨hw, TW_good _ hw⟩
/-- the room of a callee in its caller's -/
theorem room_in {d d2 nL2 : Nat} {Rm : Room} (h : d2 < d) (hn : nL2 ≤ 21) (h1 : d ≤ Rm.frames) (h2 : 40 * d ≤ Rm.locals) : d2 + 1 ≤ Rm.frames ∧ 8 + (nL2 + 11) + 40 * d2 ≤ Rm.locals := by omega
theorem R_callV {y2 : MethodName} {cc2 : ByteArray} {nL2 d2 mc2 ms2 index b ci : Nat} {ret2 : Option FieldType} {q : vw_C} {fs : List Value} {as : List Value} {Q2 : Option Value → VW → Prop}
    (hM : Sp G l y2 cc2 nL2 ret2 d2 mc2 ms2 (.ref b :: as) w Q2) (hcode : Cond.code y2 cc2 nL2 ret2 ∈ TW) (hlink : Cond.methodLink y.cls index y2 ∈ TW) (hinst : Cond.instanceMethod y2 ∈ TW) (hsel : Cond.selects y2.cls y2 y2 ∈ TW) (hini : Cond.initialized y2.cls ∈ TW)
    (hd : y2.cls ≠ "java/lang/invoke/MethodHandle" ∧ y2.cls ≠ "java/lang/invoke/VarHandle" ∧ (parseMethodDescriptor y2.desc).map (fun d => d.parameters.length) = some as.length)
    (hdl : d2 < d) (hnl : nL2 ≤ 21) (hk : k + mc2 ≤ mc) (hn : n + ms2 ≤ ms) (hst : (st.map fun v => v.category).sum ≤ 8) (hc : vwCl[ci]? = some q) (hq : q.1 = y2.cls) (he : w[b]? = some (.inr (ci, fs)))
    (hdg : decode cc pc = .ok (.invokevirtual index, 3)) (kk : ∀ (r : Option Value) (w' : VW), Q2 r w' → R G l y cc nL ret d mc ms Q (pc + 3) lv (r.toList ++ st) w' (k + mc2) (n + ms2)) : R G l y cc nL ret d mc ms Q pc lv (as.reverse ++ .ref b :: st) w k n := by
  intro p e Rm s m args below meth c Qt C0 hret H locs ls hH hS hl
  have hts := C0.2.2.2.2.1
  have hR := room_in hdl hnl C0.2.2.2.2.2.2.1 C0.2.2.2.2.2.2.2.1
  have hk3 := C0.2.2.2.2.2.2.2.2.1
  have hn3 := C0.2.2.2.2.2.2.2.2.2.1
  have hrun := va_runV (e := e) (below := below) (meth := meth) (As := as.map (tv G)) (rest := st.map (tv G)) (g := F0 m pc ls ((as.reverse ++ .ref b :: st).map (tv G))) (n := as.length) (index := index) (cells := k) (slots := n) (locs := locs) (H := H) (C := y2.cls) (b := ad G b) ⟨C0.1, C0.2.1, C0.2.2.1, C0.2.2.2.1, hts⟩ hM
    ⟨callB_of as.length hts (good_callee hcode) rfl rfl rfl (hts _ hini) (hts _ hlink) hd hR, hts _ hinst, hts _ hsel⟩
    ⟨Qm_blind, by have := va_recv C0.2.2.2.2.2.1.1 hH.2.2 hc (rw_get he); rw [hq] at this; exact this, fun U hU hW => ⟨rfl, by rw [hU]; exact hH, K9_at C0.2.2.2.2.2.1 hS hU hW⟩⟩ rfl (List.length_map _) hl.1 (tv_app G as (.ref b :: st)) (lv_room (by rw [tv_cats]; exact hst)) hdg ⟨by omega, by omega⟩
  refine call_go hrun hS (fun r w' H1 locs1 hq2 hp2 hS2 => ?_)
  have h9 := kk r w' hq2 p e Rm s m args below meth c Qt C0 hret H1 locs1 ls hp2 hS2 hl
  rw [List.map_append] at h9
  cases r <;> exact h9
theorem R_callS {y2 : MethodName} {cc2 : ByteArray} {nL2 d2 mc2 ms2 index : Nat} {ret2 : Option FieldType} {as : List Value} {Q2 : Option Value → VW → Prop}
    (hM : Sp G l y2 cc2 nL2 ret2 d2 mc2 ms2 as w Q2) (hcode : Cond.code y2 cc2 nL2 ret2 ∈ TW) (hlink : Cond.methodLink y.cls index y2 ∈ TW) (hstt : Cond.static y2 ∈ TW) (hini : Cond.initialized y2.cls ∈ TW)
    (hd : y2.cls ≠ "java/lang/invoke/MethodHandle" ∧ y2.cls ≠ "java/lang/invoke/VarHandle" ∧ (parseMethodDescriptor y2.desc).map (fun d => d.parameters.length) = some as.length)
    (hdl : d2 < d) (hnl : nL2 ≤ 21) (hk : k + mc2 ≤ mc) (hn : n + ms2 ≤ ms) (hst : (st.map fun v => v.category).sum ≤ 8)
    (hdg : decode cc pc = .ok (.invokestatic index, 3)) (kk : ∀ (r : Option Value) (w' : VW), Q2 r w' → R G l y cc nL ret d mc ms Q (pc + 3) lv (r.toList ++ st) w' (k + mc2) (n + ms2)) : R G l y cc nL ret d mc ms Q pc lv (as.reverse ++ st) w k n := by
  intro p e Rm s m args below meth c Qt C0 hret H locs ls hH hS hl
  have hts := C0.2.2.2.2.1
  have hR := room_in hdl hnl C0.2.2.2.2.2.2.1 C0.2.2.2.2.2.2.2.1
  have hk3 := C0.2.2.2.2.2.2.2.2.1
  have hn3 := C0.2.2.2.2.2.2.2.2.2.1
  have hrun := va_runS (e := e) (below := below) (meth := meth) (As := as.map (tv G)) (rest := st.map (tv G)) (g := F0 m pc ls ((as.reverse ++ st).map (tv G))) (n := as.length) (index := index) (cells := k) (slots := n) (locs := locs) (H := H) ⟨C0.1, C0.2.1, C0.2.2.1, C0.2.2.2.1, hts⟩ hM
    ⟨callB_of as.length hts (good_callee hcode) rfl rfl rfl (hts _ hini) (hts _ hlink) hd hR, hts _ hstt⟩
    ⟨Qm_blind, fun U hU hW => ⟨rfl, by rw [hU]; exact hH, K9_at C0.2.2.2.2.2.1 hS hU hW⟩⟩ rfl (List.length_map _) hl.1 (tv_app G as st) (lv_room (by rw [tv_cats]; exact hst)) hdg ⟨by omega, by omega⟩
  refine call_go hrun hS (fun r w' H1 locs1 hq2 hp2 hS2 => ?_)
  have h9 := kk r w' hq2 p e Rm s m args below meth c Qt C0 hret H1 locs1 ls hp2 hS2 hl
  rw [List.map_append] at h9
  cases r <;> exact h9
/-- a nest mate's private static method -/
theorem R_callSN {y2 : MethodName} {cc2 : ByteArray} {nL2 d2 mc2 ms2 index : Nat} {ret2 : Option FieldType} {as : List Value} {Q2 : Option Value → VW → Prop}
    (hM : Sp G l y2 cc2 nL2 ret2 d2 mc2 ms2 as w Q2) (hcode : Cond.code y2 cc2 nL2 ret2 ∈ TW) (hlink : (y.cls, index, y2) ∈ NWl) (hstt : Cond.static y2 ∈ TW) (hini : Cond.initialized y2.cls ∈ TW)
    (hd : y2.cls ≠ "java/lang/invoke/MethodHandle" ∧ y2.cls ≠ "java/lang/invoke/VarHandle" ∧ (parseMethodDescriptor y2.desc).map (fun d => d.parameters.length) = some as.length)
    (hdl : d2 < d) (hnl : nL2 ≤ 21) (hk : k + mc2 ≤ mc) (hn : n + ms2 ≤ ms) (hst : (st.map fun v => v.category).sum ≤ 8)
    (hdg : decode cc pc = .ok (.invokestatic index, 3)) (kk : ∀ (r : Option Value) (w' : VW), Q2 r w' → R G l y cc nL ret d mc ms Q (pc + 3) lv (r.toList ++ st) w' (k + mc2) (n + ms2)) : R G l y cc nL ret d mc ms Q pc lv (as.reverse ++ st) w k n := by
  intro p e Rm s m args below meth c Qt C0 hret H locs ls hH hS hl
  have hts := C0.2.2.2.2.1
  have hR := room_in hdl hnl C0.2.2.2.2.2.2.1 C0.2.2.2.2.2.2.2.1
  have hk3 := C0.2.2.2.2.2.2.2.2.1
  have hn3 := C0.2.2.2.2.2.2.2.2.2.1
  have hrun := va_runSN (e := e) (below := below) (meth := meth) (As := as.map (tv G)) (rest := st.map (tv G)) (g := F0 m pc ls ((as.reverse ++ st).map (tv G))) (n := as.length) (index := index) (cells := k) (slots := n) (locs := locs) (H := H) ⟨C0.1, C0.2.1, C0.2.2.1, C0.2.2.2.1, hts⟩ hM
    ⟨va_cnB as.length hts (good_callee hcode) rfl rfl rfl (C0.2.2.2.2.2.1.2.1 _ hlink) (hts _ hini) hd hR, hts _ hstt, trivial⟩
    ⟨Qm_blind, fun U hU hW => ⟨rfl, by rw [hU]; exact hH, K9_at C0.2.2.2.2.2.1 hS hU hW⟩⟩ rfl (List.length_map _) hl.1 (tv_app G as st) (lv_room (by rw [tv_cats]; exact hst)) hdg ⟨by omega, by omega⟩
  refine call_go hrun hS (fun r w' H1 locs1 hq2 hp2 hS2 => ?_)
  have h9 := kk r w' hq2 p e Rm s m args below meth c Qt C0 hret H1 locs1 ls hp2 hS2 hl
  rw [List.map_append] at h9
  cases r <;> exact h9
theorem R_callI {y2 : MethodName} {cc2 : ByteArray} {nL2 d2 mc2 ms2 index b : Nat} {as : List Value} {Q2 : Option Value → VW → Prop}
    (hM : Sp G l y2 cc2 nL2 none d2 mc2 ms2 (.ref b :: as) w Q2) (hcode : Cond.code y2 cc2 nL2 none ∈ TW) (hlink : Cond.methodLink y.cls index y2 ∈ TW) (hinst : Cond.instanceMethod y2 ∈ TW) (hini : Cond.initialized y2.cls ∈ TW) (hname : y2.name = "<init>")
    (hd : y2.cls ≠ "java/lang/invoke/MethodHandle" ∧ y2.cls ≠ "java/lang/invoke/VarHandle" ∧ (parseMethodDescriptor y2.desc).map (fun d => d.parameters.length) = some as.length)
    (hdl : d2 < d) (hnl : nL2 ≤ 21) (hk : k + mc2 ≤ mc) (hn : n + ms2 ≤ ms) (hst : (st.map fun v => v.category).sum ≤ 8)
    (hdg : decode cc pc = .ok (.invokespecial index, 3)) (kk : ∀ (r : Option Value) (w' : VW), Q2 r w' → R G l y cc nL ret d mc ms Q (pc + 3) lv (r.toList ++ st) w' (k + mc2) (n + ms2)) : R G l y cc nL ret d mc ms Q pc lv (as.reverse ++ .ref b :: st) w k n := by
  intro p e Rm s m args below meth c Qt C0 hret H locs ls hH hS hl
  have hts := C0.2.2.2.2.1
  have hR := room_in hdl hnl C0.2.2.2.2.2.2.1 C0.2.2.2.2.2.2.2.1
  have hk3 := C0.2.2.2.2.2.2.2.2.1
  have hn3 := C0.2.2.2.2.2.2.2.2.2.1
  have hrun := va_runI (e := e) (below := below) (meth := meth) (As := as.map (tv G)) (rest := st.map (tv G)) (g := F0 m pc ls ((as.reverse ++ .ref b :: st).map (tv G))) (n := as.length) (index := index) (cells := k) (slots := n) (locs := locs) (H := H) (b := ad G b) ⟨C0.1, C0.2.1, C0.2.2.1, C0.2.2.2.1, hts⟩ hM
    ⟨callB_of as.length hts (good_callee hcode) rfl rfl rfl (hts _ hini) (hts _ hlink) hd hR, hname, hts _ hinst⟩
    ⟨Qm_blind, fun U hU hW => ⟨rfl, by rw [hU]; exact hH, K9_at C0.2.2.2.2.2.1 hS hU hW⟩⟩ rfl (List.length_map _) hl.1 (tv_app G as (.ref b :: st)) (lv_room (by rw [tv_cats]; exact hst)) hdg ⟨by omega, by omega⟩
  refine call_go hrun hS (fun r w' H1 locs1 hq2 hp2 hS2 => ?_)
  have h9 := kk r w' hq2 p e Rm s m args below meth c Qt C0 hret H1 locs1 ls hp2 hS2 hl
  rw [List.map_append] at h9
  cases r <;> exact h9
/-- a nest mate's private constructor -/
theorem R_callIN {y2 : MethodName} {cc2 : ByteArray} {nL2 d2 mc2 ms2 index b : Nat} {as : List Value} {Q2 : Option Value → VW → Prop}
    (hM : Sp G l y2 cc2 nL2 none d2 mc2 ms2 (.ref b :: as) w Q2) (hcode : Cond.code y2 cc2 nL2 none ∈ TW) (hlink : (y.cls, index, y2) ∈ NWl) (hinst : Cond.instanceMethod y2 ∈ TW) (hini : Cond.initialized y2.cls ∈ TW) (hname : y2.name = "<init>")
    (hd : y2.cls ≠ "java/lang/invoke/MethodHandle" ∧ y2.cls ≠ "java/lang/invoke/VarHandle" ∧ (parseMethodDescriptor y2.desc).map (fun d => d.parameters.length) = some as.length)
    (hdl : d2 < d) (hnl : nL2 ≤ 21) (hk : k + mc2 ≤ mc) (hn : n + ms2 ≤ ms) (hst : (st.map fun v => v.category).sum ≤ 8)
    (hdg : decode cc pc = .ok (.invokespecial index, 3)) (kk : ∀ (r : Option Value) (w' : VW), Q2 r w' → R G l y cc nL ret d mc ms Q (pc + 3) lv (r.toList ++ st) w' (k + mc2) (n + ms2)) : R G l y cc nL ret d mc ms Q pc lv (as.reverse ++ .ref b :: st) w k n := by
  intro p e Rm s m args below meth c Qt C0 hret H locs ls hH hS hl
  have hts := C0.2.2.2.2.1
  have hR := room_in hdl hnl C0.2.2.2.2.2.2.1 C0.2.2.2.2.2.2.2.1
  have hk3 := C0.2.2.2.2.2.2.2.2.1
  have hn3 := C0.2.2.2.2.2.2.2.2.2.1
  have hrun := va_runIN (e := e) (below := below) (meth := meth) (As := as.map (tv G)) (rest := st.map (tv G)) (g := F0 m pc ls ((as.reverse ++ .ref b :: st).map (tv G))) (n := as.length) (index := index) (cells := k) (slots := n) (locs := locs) (H := H) (b := ad G b) ⟨C0.1, C0.2.1, C0.2.2.1, C0.2.2.2.1, hts⟩ hM
    ⟨va_cnB as.length hts (good_callee hcode) rfl rfl rfl (C0.2.2.2.2.2.1.2.1 _ hlink) (hts _ hini) hd hR, hname, hts _ hinst⟩
    ⟨Qm_blind, fun U hU hW => ⟨rfl, by rw [hU]; exact hH, K9_at C0.2.2.2.2.2.1 hS hU hW⟩⟩ rfl (List.length_map _) hl.1 (tv_app G as (.ref b :: st)) (lv_room (by rw [tv_cats]; exact hst)) hdg ⟨by omega, by omega⟩
  refine call_go hrun hS (fun r w' H1 locs1 hq2 hp2 hS2 => ?_)
  have h9 := kk r w' hq2 p e Rm s m args below meth c Qt C0 hret H1 locs1 ls hp2 hS2 hl
  rw [List.map_append] at h9
  cases r <;> exact h9
end CALLS
end
section
/-! new objects, new arrays, Math, Strings -/
theorem vr_outer (c : ClassId) (N h0 : Nat) : ∀ i : Nat, Jvm.Free.Multi.outerC c N h0 i = arrV c N (fun j => va_rf (if j < i then some (h0 + 1 + j) else none))
  | 0 => by
    show ({ cls := c, slots := Array.replicate N .null, vm := .none } : Cell) = _
    rw [arrV_new]
    refine congrArg (arrV c N) (funext fun j => ?_)
    simp [va_rf]
  | i + 1 => by
    show (Jvm.Free.Multi.outerC c N h0 i).setSlot i (.ref (h0 + 1 + i)) = _
    rw [vr_outer c N h0 i, arrV_store]
    refine congrArg (arrV c N) (funext fun j => ?_)
    by_cases e : j = i
    · subst e
      simp [updV, va_rf]
    · by_cases h : j < i
      · simp [updV, e, h, Nat.lt_succ_of_lt h]
      · simp [updV, e, h, show ¬ j < i + 1 by omega]
section MAKE
variable {G : vG} {l : Launch} {y : MethodName} {cc : ByteArray} {nL : Nat} {ret : Option FieldType} {d mc ms : Nat} {Q : Option Value → VW → Prop} {pc : Nat} {lv : List (Option Value)} {st : List Value} {w : VW} {k n : Nat}
theorem hp_push {G : vG} {w : VW} {H H1 : Heap} {e : VE} (hH : hpOK G w H) (hlt : w.length < 1000000) (hz : H1.size = H.size + 1) (hk : ∀ q : Nat, q < H.size → H1[q]? = H[q]?) (he : va_at (gD G) vwCl (ad G w.length, te G e) H1) : hpOK G (w ++ [e]) H1 := by
  refine ⟨by rw [hz, hH.1, List.length_append]; rfl, by rw [List.length_append]; exact hlt, ?_⟩
  rw [← rw_push]
  exact (hH.2.2.kept (fun k x hx => hk x.1 ((hH.2.2 k x hx).lt))).app (fun k x hx => by
    have hz : k < 1 := (List.getElem?_eq_some_iff.mp hx).1
    rw [show k = 0 by omega] at hx
    cases hx
    exact he)
theorem ad_len {G : vG} {w : VW} {H : Heap} (hH : hpOK G w H) (hlt : w.length < 1000000) : ad G w.length = H.size := by
  rw [ad_lt hlt, hH.1]
theorem S_push {G : vG} {s : State} {H H1 : Heap} {locs : List Loc} (hS : va_S (Ar G) s.heap H locs) (hz : H.size ≤ H1.size) (hk : ∀ q : Nat, q < H.size → H1[q]? = H[q]?) : va_S (Ar G) s.heap H1 locs :=
  ⟨Nat.le_trans hS.1 hz, fun x h1 h2 => (hk x (Nat.lt_of_lt_of_le h1 hS.1)).trans (hS.2.1 x h1 h2), hS.2.2⟩
theorem R_new {C : String} {T : u_T} {ty : Nat → FieldType} {N ci index : Nat} {fs : List Value} (hc : vwCl[ci]? = some (C, T, N)) (hin : ∀ w ∈ u_ws C T N, w ∈ TW) (hty : ∀ k, k < N → parseFieldDescriptor (T k).2.2.1 = some (ty k)) (hcl : Cond.classLink y.cls index C ∈ TW) (hinst : Cond.instantiable C N ∈ TW) (hini : Cond.initialized C ∈ TW)
    (hfs : ∀ j, j < N → defaultValue (ty j) = vp_V fs j) (hfr : fs.map (tv G) = fs) (hlt : w.length < 1000000) (hk : k + 1 ≤ mc) (hn : n + N ≤ ms) (hdg : decode cc pc = .ok (.new index, 3))
    (kk : R G l y cc nL ret d mc ms Q (pc + 3) lv (.ref w.length :: st) (w ++ [.inr (ci, fs)]) (k + 1) (n + N)) : R G l y cc nL ret d mc ms Q pc lv st w k n := by
  intro p e Rm s m args below meth c Qt C0 hret H locs ls hH hS hl
  have hts := C0.2.2.2.2.1
  have hKn := C0.2.2.2.2.2.1.1.1 ci _ hc
  have hk3 := C0.2.2.2.2.2.2.2.2.1
  have hn3 := C0.2.2.2.2.2.2.2.2.2.1
  refine W.newcK C0.1 C0.2.1 C0.2.2.2.1 (hts _ hcl) (hts _ hinst) (hts _ hini) rfl hdg (by omega) (by omega) hKn.2.1 rfl fun H1 kC hkC e1 z1 o1 => ?_
  have h9 := kk p e Rm s m args below meth c Qt C0 hret H1 locs ls (hp_push hH hlt z1 o1 ?_) (S_push hS (by omega) o1) hl
  · rw [← ad_len hH hlt]
    exact h9
  · rw [ad_len hH hlt]
    show ∃ r : vw_C, _ ∧ _
    refine ⟨_, hc, ?_⟩
    show t_OB H.size _ _ _ H1 (vp_V (fs.map (tv G)))
    rw [hfr]
    exact (u_born ty hts hin hKn hkC e1 hty).to hfs
theorem newarr_go {a0 : vp_A} {kind : Nat} {atype : ArrayType} {ty : FieldType} (hkd : (tyG G)[kind]? = some (gA G kind, ty)) (hty : newarray.typeOf atype = ty) (hnm : ∀ (U : State) (cA : ClassId), va_RA U cA ty → U.vm.findClass ("[" ++ ty.toString) = some cA) (harr : Cond.arrayClass (newarray.typeOf atype) ∈ TW)
    {x : Int32} {N' : Nat} (ha : ∀ cA : ClassId, vp_cell cA (tc G a0) = arrV cA N' (fun _ => defaultValue ty)) (hx : ¬ x < 0) (hN : x.toNatClampNeg = N') (hbytes : N' * componentBytes ty ≤ 536870912) (hlt : w.length < 1000000) (hk : k + 1 ≤ mc) (hn : n + N' ≤ ms) (hdg : decode cc pc = .ok (.newarray atype, 2))
    (kk : R G l y cc nL ret d mc ms Q (pc + 2) lv (.ref w.length :: st) (w ++ [.inl (kind, a0)]) (k + 1) (n + N')) : R G l y cc nL ret d mc ms Q pc lv (.int x :: st) w k n := by
  intro p e Rm s m args below meth c Qt C0 hret H locs ls hH hS hl
  have hts := C0.2.2.2.2.1
  have hk3 := C0.2.2.2.2.2.2.2.2.1
  have hn3 := C0.2.2.2.2.2.2.2.2.2.1
  subst hty
  refine va_newaK C0.1 C0.2.1 (hts _ harr) rfl hdg rfl hx hN hbytes (by omega) (by omega) rfl fun H1 cA e1 z1 o1 hAr hNm => ?_
  have hcA : cA = gA G kind := Option.some.inj (hNm.symm.trans (hnm _ _ (C0.2.2.2.2.2.1.1.2 kind _ hkd).2))
  subst hcA
  have h9 := kk p e Rm s m args below meth c Qt C0 hret H1 locs ls (hp_push hH hlt z1 o1 ?_) (S_push hS (by omega) o1) hl
  · rw [← ad_len hH hlt]
    exact h9
  · rw [ad_len hH hlt]
    show H1[H.size]? = some (vp_cell (gA G kind) (tc G a0))
    rw [ha]
    exact e1
theorem R_newI {x : Int32} {N' : Nat} (hx : ¬ x < 0) (hN : x.toNatClampNeg = N') (hbytes : N' * 4 ≤ 536870912) (hlt : w.length < 1000000) (hk : k + 1 ≤ mc) (hn : n + N' ≤ ms) (hdg : decode cc pc = .ok (.newarray .int, 2))
    (kk : R G l y cc nL ret d mc ms Q (pc + 2) lv (.ref w.length :: st) (w ++ [.inl (0, N', .inl (fun _ => 0))]) (k + 1) (n + N')) : R G l y cc nL ret d mc ms Q pc lv (.int x :: st) w k n :=
  newarr_go (kind := 0) (a0 := (N', .inl (fun _ => 0))) rfl rfl (fun _ _ h => h) (TW_tb 96 (by decide +kernel) (by decide +kernel)) (fun cA => vp_cell_i cA N' _) hx hN hbytes hlt hk hn hdg kk
theorem R_newJ {x : Int32} {N' : Nat} (hx : ¬ x < 0) (hN : x.toNatClampNeg = N') (hbytes : N' * 8 ≤ 536870912) (hlt : w.length < 1000000) (hk : k + 1 ≤ mc) (hn : n + N' ≤ ms) (hdg : decode cc pc = .ok (.newarray .long, 2))
    (kk : R G l y cc nL ret d mc ms Q (pc + 2) lv (.ref w.length :: st) (w ++ [.inl (1, N', .inr (.inl (fun _ => 0)))]) (k + 1) (n + N')) : R G l y cc nL ret d mc ms Q pc lv (.int x :: st) w k n :=
  newarr_go (kind := 1) (a0 := (N', .inr (.inl (fun _ => 0)))) rfl rfl (fun _ _ h => h) (TW_tb 97 (by decide +kernel) (by decide +kernel)) (fun cA => vp_cell_l cA N' _) hx hN hbytes hlt hk hn hdg kk
theorem R_newZ {x : Int32} {N' : Nat} (hx : ¬ x < 0) (hN : x.toNatClampNeg = N') (hbytes : N' * 1 ≤ 536870912) (hlt : w.length < 1000000) (hk : k + 1 ≤ mc) (hn : n + N' ≤ ms) (hdg : decode cc pc = .ok (.newarray .boolean, 2))
    (kk : R G l y cc nL ret d mc ms Q (pc + 2) lv (.ref w.length :: st) (w ++ [.inl (2, N', .inl (fun _ => 0))]) (k + 1) (n + N')) : R G l y cc nL ret d mc ms Q pc lv (.int x :: st) w k n :=
  newarr_go (kind := 2) (a0 := (N', .inl (fun _ => 0))) rfl rfl (fun _ _ h => h) (TW_tb 150 (by decide +kernel) (by decide +kernel)) (fun cA => vp_cell_i cA N' _) hx hN hbytes hlt hk hn hdg kk
theorem R_objInit {index a : Nat} (hlink : Cond.methodLink y.cls index objectInit ∈ TW) (hdg : decode cc pc = .ok (.invokespecial index, 3)) (hd : 1 ≤ d) (hst : (st.map fun v => v.category).sum ≤ 8) (kk : R G l y cc nL ret d mc ms Q (pc + 3) lv st w k n) : R G l y cc nL ret d mc ms Q pc lv (.ref a :: st) w k n := by
  intro p e Rm s m args below meth c Qt C0 hret H locs ls hH hS hl
  have hts := C0.2.2.2.2.1
  have hf := C0.2.2.2.2.2.2.1
  have hlo := C0.2.2.2.2.2.2.2.1
  have hc := tv_cats G st
  exact W.objInit C0.1 C0.2.1 C0.2.2.2.1 (hts _ hlink) (hts _ (TW_tb 24 (by decide +kernel) (by decide +kernel))) (hts _ (TW_tb 25 (by decide +kernel) (by decide +kernel))) rfl (hl.1.trans C0.2.2.1.symm) rfl hdg (by omega) (by show 2 * 0 + _ + 12 ≤ _; omega) (kk p e Rm s m args below meth c Qt C0 hret H locs ls hH hS hl)
end MAKE
end
section
/-! rows of rows, Math, Strings -/
section MORE
variable {G : vG} {l : Launch} {y : MethodName} {cc : ByteArray} {nL : Nat} {ret : Option FieldType} {d mc ms : Nat} {Q : Option Value → VW → Prop} {pc : Nat} {lv : List (Option Value)} {st : List Value} {w : VW} {k n : Nat}
theorem hp_pushes {G : vG} {w : VW} {H H1 : Heap} {e0 e : VE} {N : Nat} (hH : hpOK G w H) (hlt : w.length + N < 1000000) (hz : H1.size = H.size + 1 + N) (hk : ∀ q : Nat, q < H.size → H1[q]? = H[q]?) (h0 : va_at (gD G) vwCl (H.size, te G e0) H1) (he : ∀ j : Nat, j < N → va_at (gD G) vwCl (H.size + 1 + j, te G e) H1) : hpOK G (w ++ e0 :: List.replicate N e) H1 := by
  refine ⟨by rw [hz, hH.1, List.length_append, List.length_cons, List.length_replicate]; omega, by rw [List.length_append, List.length_cons, List.length_replicate]; omega, ?_⟩
  intro i q hq
  obtain ⟨e1, h1, rfl⟩ := rw_inv hq
  by_cases hi : i < w.length
  · rw [List.getElem?_append_left hi] at h1
    have h2 := hH.2.2 i _ (rw_get h1)
    exact h2.kept (hk _ h2.lt)
  · rw [List.getElem?_append_right (by omega)] at h1
    have hil : i < 1000000 := by
      have h5 := (List.getElem?_eq_some_iff.mp h1).1
      rw [List.length_cons, List.length_replicate] at h5
      omega
    rw [ad_lt hil]
    by_cases h3 : i - w.length = 0
    · rw [h3] at h1
      cases h1
      rw [show gz G + i = H.size by rw [hH.1]; omega]
      exact h0
    · obtain ⟨j, hj⟩ : ∃ j, i - w.length = j + 1 := ⟨i - w.length - 1, by omega⟩
      rw [hj, List.getElem?_cons_succ] at h1
      have h5 := (List.getElem?_eq_some_iff.mp h1).1
      rw [List.length_replicate] at h5
      have h6 : e1 = e := by
        rw [List.getElem?_replicate, if_pos h5] at h1
        exact (Option.some.inj h1).symm
      subst h6
      rw [show gz G + i = H.size + 1 + j by rw [hH.1]; omega]
      exact he j h5
theorem R_mna {index : Nat} {x z : Int32} {N K : Nat} (hcl : Cond.classLink y.cls index "[[I" ∈ TW) (hN : x.toNatClampNeg = N) (hK : z.toNatClampNeg = K) (hx : ¬ x < 0) (hz : ¬ z < 0) (hb1 : N * 4 ≤ 536870912) (hb2 : K * 4 ≤ 536870912) (hlt : w.length + N < 1000000) (hk : k + 1 + N ≤ mc) (hn : n + N + N * K ≤ ms) (hdg : decode cc pc = .ok (.multianewarray index 2, 4))
    (kk : R G l y cc nL ret d mc ms Q (pc + 4) lv (.ref w.length :: st) (w ++ .inl (3, N, .inr (.inr (.inr (.inr (fun i => if i < N then some (w.length + 1 + i) else none))))) :: List.replicate N (.inl (0, K, .inl (fun _ => 0)))) (k + 1 + N) (n + N + N * K)) : R G l y cc nL ret d mc ms Q pc lv (.int z :: .int x :: st) w k n := by
  intro p e Rm s m args below meth c Qt C0 hret H locs ls hH hS hl
  subst hN
  subst hK
  have hts := C0.2.2.2.2.1
  have hk3 := C0.2.2.2.2.2.2.2.2.1
  have hn3 := C0.2.2.2.2.2.2.2.2.2.1
  have hK9 := C0.2.2.2.2.2.1.1
  have hA3 : s.vm.findClass ("[" ++ (FieldType.array .int).toString) = some (gA G 3) := (hK9.2 3 _ rfl).2
  have hA0 : s.vm.findClass ("[" ++ FieldType.int.toString) = some (gA G 0) := (hK9.2 0 _ rfl).2
  have hAO : (Cond.arrayOver (.array .int)).before args s = true := Jvm.Stand.arrayOver_alikeB (Vm.Alike.refl s.vm) C0.2.2.2.2.2.1.2.2.2.2.2.2.2.2.2
  intro T hT X
  obtain ⟨vm₁, cA, comp, -, fA, fC, -, -, X', step⟩ := X.multianewarray2F C0.1 C0.2.2.2.1 (own := y.cls) (index := index) (ty := .int) (hts _ hcl) hAO (hts _ (TW_tb 96 (by decide +kernel) (by decide +kernel))) (g := F0 m pc ls ((Value.int z :: .int x :: st).map (tv G))) rfl (by rw [C0.2.1]; exact hdg) rfl hx hz hb1 hb2 (by omega) rfl rfl (by omega) (by omega)
  have ec : cA = gA G 3 := Option.some.inj (fA.symm.trans hA3)
  have ec0 : comp = gA G 0 := Option.some.inj (fC.symm.trans hA0)
  subst ec
  subst ec0
  have hTh : (T.setVm vm₁).heap = H := hT
  obtain ⟨f1, f2, -, -⟩ := Jvm.Free.Multi.fill_facts (T.setVm vm₁) (gA G 3) (gA G 0) x.toNatClampNeg z.toNatClampNeg (defaultValue .int) x.toNatClampNeg
  have hold : ∀ q : Nat, q < H.size → (Jvm.Free.Multi.fill (T.setVm vm₁) (gA G 3) (gA G 0) x.toNatClampNeg z.toNatClampNeg (defaultValue .int) x.toNatClampNeg).heap[q]? = H[q]? := fun q hq => by
    have h9 := Jvm.Free.Multi.fill_old (T.setVm vm₁) (gA G 3) (gA G 0) x.toNatClampNeg z.toNatClampNeg (defaultValue .int) (a := q) (by rw [hTh]; exact hq) x.toNatClampNeg
    rw [hTh] at h9
    exact h9
  have hrow := Jvm.Free.Multi.fill_inner (T.setVm vm₁) (gA G 3) (gA G 0) x.toNatClampNeg z.toNatClampNeg (defaultValue .int) x.toNatClampNeg
  rw [hTh] at f1 f2 hrow
  generalize hF : Jvm.Free.Multi.fill (T.setVm vm₁) (gA G 3) (gA G 0) x.toNatClampNeg z.toNatClampNeg (defaultValue .int) x.toNatClampNeg = F at *
  have hTs : T.heap.size = H.size := by rw [hT]
  rw [hTs] at step
  have hwl : ad G w.length = H.size := ad_len hH (by omega)
  have h9 := kk p e Rm s m args below meth c Qt C0 hret F.heap locs ls (hp_pushes hH hlt f1 hold ?_ ?_) (S_push hS (by omega) hold) hl F rfl X'
  · obtain ⟨t, a1, b1⟩ := h9
    refine ⟨t, step t ?_, b1⟩
    rw [← hwl]
    exact a1
  · show F.heap[H.size]? = some (vp_cell (gA G 3) (x.toNatClampNeg, .inr (.inr (.inr (.inr (fun i => (if i < x.toNatClampNeg then some (w.length + 1 + i) else none).map (ad G)))))))
    rw [f2, vr_outer]
    refine congrArg some ?_
    rw [vp_cell_q]
    refine congrArg (arrV _ _) (funext fun j => ?_)
    by_cases h : j < x.toNatClampNeg
    · rw [if_pos h, if_pos h]
      show va_rf (some (H.size + 1 + j)) = va_rf (some (ad G (w.length + 1 + j)))
      rw [ad_lt (by omega), hH.1]
      congr 2
      omega
    · rw [if_neg h, if_neg h]
      rfl
  · intro j hj
    show F.heap[H.size + 1 + j]? = some (vp_cell (gA G 0) (z.toNatClampNeg, .inl (fun _ => 0)))
    rw [hrow j hj, vp_cell_i, ← arrV_new]
    rfl
theorem R_mmax {index : Nat} {a b : Int32} (hlink : Cond.methodLink y.cls index Lib.Math.max.name ∈ TW) (hdg : decode cc pc = .ok (.invokestatic index, 3)) (hd : 1 ≤ d) (hst : (st.map fun v => v.category).sum ≤ 8) (hk : k ≤ mc) (hn : n ≤ ms) (kk : R G l y cc nL ret d mc ms Q (pc + 3) lv (.int (if a < b then b else a) :: st) w k n) : R G l y cc nL ret d mc ms Q pc lv (.int b :: .int a :: st) w k n := by
  intro p e Rm s m args below meth c Qt C0 hret H locs ls hH hS hl
  have hts := C0.2.2.2.2.1
  have hf := C0.2.2.2.2.2.2.1
  have hlo := C0.2.2.2.2.2.2.2.1
  have hc := tv_cats G st
  have hk3 := C0.2.2.2.2.2.2.2.2.1
  have hn3 := C0.2.2.2.2.2.2.2.2.2.1
  exact va_mmax C0.1 C0.2.1 (C0.2.2.1.trans hl.1.symm) C0.2.2.2.1 (hts _ hlink) (hts _ (TW_tb 374 (by decide +kernel) (by decide +kernel))) (hts _ (TW_tb 11 (by decide +kernel) (by decide +kernel))) (hts _ (TW_tb 375 (by decide +kernel) (by decide +kernel))) (by omega) (by omega) (by omega) (by omega) hdg (kk p e Rm s m args below meth c Qt C0 hret H locs ls hH hS hl)
theorem R_mmin {index : Nat} {a b : Int32} (hlink : Cond.methodLink y.cls index Lib.Math.min.name ∈ TW) (hdg : decode cc pc = .ok (.invokestatic index, 3)) (hd : 1 ≤ d) (hst : (st.map fun v => v.category).sum ≤ 8) (hk : k ≤ mc) (hn : n ≤ ms) (kk : R G l y cc nL ret d mc ms Q (pc + 3) lv (.int (if b < a then b else a) :: st) w k n) : R G l y cc nL ret d mc ms Q pc lv (.int b :: .int a :: st) w k n := by
  intro p e Rm s m args below meth c Qt C0 hret H locs ls hH hS hl
  have hts := C0.2.2.2.2.1
  have hf := C0.2.2.2.2.2.2.1
  have hlo := C0.2.2.2.2.2.2.2.1
  have hc := tv_cats G st
  have hk3 := C0.2.2.2.2.2.2.2.2.1
  have hn3 := C0.2.2.2.2.2.2.2.2.2.1
  exact va_mmin C0.1 C0.2.1 (C0.2.2.1.trans hl.1.symm) C0.2.2.2.1 (hts _ hlink) (hts _ (TW_tb 377 (by decide +kernel) (by decide +kernel))) (hts _ (TW_tb 11 (by decide +kernel) (by decide +kernel))) (hts _ (TW_tb 378 (by decide +kernel) (by decide +kernel))) (by omega) (by omega) (by omega) (by omega) hdg (kk p e Rm s m args below meth c Qt C0 hret H locs ls hH hS hl)
theorem R_mabs {index : Nat} {a : Int32} (hlink : Cond.methodLink y.cls index Lib.Math.abs.name ∈ TW) (hdg : decode cc pc = .ok (.invokestatic index, 3)) (hd : 1 ≤ d) (hst : (st.map fun v => v.category).sum ≤ 8) (hk : k ≤ mc) (hn : n ≤ ms) (kk : R G l y cc nL ret d mc ms Q (pc + 3) lv (.int (if 0 ≤ a then a else 0 - a) :: st) w k n) : R G l y cc nL ret d mc ms Q pc lv (.int a :: st) w k n := by
  intro p e Rm s m args below meth c Qt C0 hret H locs ls hH hS hl
  have hts := C0.2.2.2.2.1
  have hf := C0.2.2.2.2.2.2.1
  have hlo := C0.2.2.2.2.2.2.2.1
  have hc := tv_cats G st
  have hk3 := C0.2.2.2.2.2.2.2.2.1
  have hn3 := C0.2.2.2.2.2.2.2.2.2.1
  exact va_mabs C0.1 C0.2.1 (C0.2.2.1.trans hl.1.symm) C0.2.2.2.1 (hts _ hlink) (hts _ (TW_tb 690 (by decide +kernel) (by decide +kernel))) (hts _ (TW_tb 11 (by decide +kernel) (by decide +kernel))) (hts _ (TW_tb 691 (by decide +kernel) (by decide +kernel))) (by omega) (by omega) (by omega) (by omega) hdg (kk p e Rm s m args below meth c Qt C0 hret H locs ls hH hS hl)
/-- a text's place: 1000000 + i; its bytes' place: 1000100 + i -/
theorem R_ldcS {i : Nat} {q : Nat × String} (hq : cpS[i]? = some q) (hy : y.cls = "ViewCards$Reader") (hdg : decode cc pc = .ok (.ldc q.1, 2)) (hi : ad G (1000000 + i) = gK G i) (kk : R G l y cc nL ret d mc ms Q (pc + 2) lv (.ref (1000000 + i) :: st) w k n) : R G l y cc nL ret d mc ms Q pc lv st w k n := by
  intro p e Rm s m args below meth c Qt C0 hret H locs ls hH hS hl
  obtain ⟨-, -, hZ, -⟩ := C0.2.2.2.2.2.1
  have h9 := kk p e Rm s m args below meth c Qt C0 hret H locs ls hH hS hl
  refine va_ldcS C0.1 C0.2.1 C0.2.2.2.1 (tx := q.2) (q := gK G i) (by rw [hy]; exact hZ i q hq) hdg ?_
  rw [← hi]
  exact h9
theorem adS (G : vG) {i : Nat} (hi : i < 100) : ad G (1000000 + i) = gK G i := by
  unfold ad
  rw [if_neg (by omega), if_pos (by omega), Nat.add_sub_cancel_left]
theorem adT (G : vG) {i : Nat} (hi : i < 100) : ad G (1000100 + i) = gV G i := by
  unfold ad
  rw [if_neg (by omega), if_neg (by omega), if_pos (by omega), Nat.add_sub_cancel_left]
end MORE
end
