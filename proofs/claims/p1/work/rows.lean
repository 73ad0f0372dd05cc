section
/-- a private method of a class that the tables say can be made, by its rows of tables_1 -/
def lw_okq (q : MethodName × Nat) : Prop := (q.1.cls ≠ "java/lang/invoke/MethodHandle" ∧ q.1.cls ≠ "java/lang/invoke/VarHandle") ∧ Cond.instantiable q.1.cls q.2 ∈ tables_1 ∧ Cond.privateMethod q.1 ∈ tables_1 ∧ Cond.instanceMethod q.1 ∈ tables_1
theorem lw_p0 : lw_okq (⟨"ViewCards$Kin", "fewestOtherwise", "(II)I"⟩, 5) := ⟨⟨by decide +kernel, by decide +kernel⟩, List.mem_of_getElem? (i := 99) (by decide +kernel), List.mem_of_getElem? (i := 367) (by decide +kernel), List.mem_of_getElem? (i := 368) (by decide +kernel)⟩
theorem lw_p1 : lw_okq (⟨"ViewCards$Kin", "fewestChanges", "(II)I"⟩, 5) := ⟨⟨by decide +kernel, by decide +kernel⟩, List.mem_of_getElem? (i := 99) (by decide +kernel), List.mem_of_getElem? (i := 393) (by decide +kernel), List.mem_of_getElem? (i := 394) (by decide +kernel)⟩
theorem lw_p2 : lw_okq (⟨"ViewCards", "areTwoThere", "(II)Z"⟩, 10) := ⟨⟨by decide +kernel, by decide +kernel⟩, List.mem_of_getElem? (i := 19) (by decide +kernel), List.mem_of_getElem? (i := 425) (by decide +kernel), List.mem_of_getElem? (i := 426) (by decide +kernel)⟩
theorem lw_p3 : lw_okq (⟨"ViewCards$Kin", "chained", "(IIZ)I"⟩, 5) := ⟨⟨by decide +kernel, by decide +kernel⟩, List.mem_of_getElem? (i := 99) (by decide +kernel), List.mem_of_getElem? (i := 442) (by decide +kernel), List.mem_of_getElem? (i := 443) (by decide +kernel)⟩
theorem lw_p4 : lw_okq (⟨"ViewCards", "timesSeen", "(I)I"⟩, 10) := ⟨⟨by decide +kernel, by decide +kernel⟩, List.mem_of_getElem? (i := 19) (by decide +kernel), List.mem_of_getElem? (i := 484) (by decide +kernel), List.mem_of_getElem? (i := 485) (by decide +kernel)⟩
theorem lw_p5 : lw_okq (⟨"ViewCards", "priceOf", "(I)I"⟩, 10) := ⟨⟨by decide +kernel, by decide +kernel⟩, List.mem_of_getElem? (i := 19) (by decide +kernel), List.mem_of_getElem? (i := 501) (by decide +kernel), List.mem_of_getElem? (i := 502) (by decide +kernel)⟩
theorem lw_p6 : lw_okq (⟨"ViewCards", "cardsSeen", "(I)I"⟩, 10) := ⟨⟨by decide +kernel, by decide +kernel⟩, List.mem_of_getElem? (i := 19) (by decide +kernel), List.mem_of_getElem? (i := 547) (by decide +kernel), List.mem_of_getElem? (i := 548) (by decide +kernel)⟩
theorem lw_p7 : lw_okq (⟨"ViewCards$Kin", "leastOfChains", "(IZ)I"⟩, 5) := ⟨⟨by decide +kernel, by decide +kernel⟩, List.mem_of_getElem? (i := 99) (by decide +kernel), List.mem_of_getElem? (i := 555) (by decide +kernel), List.mem_of_getElem? (i := 556) (by decide +kernel)⟩
theorem lw_p8 : lw_okq (⟨"ViewCards", "cardsInBoth", "(II)I"⟩, 10) := ⟨⟨by decide +kernel, by decide +kernel⟩, List.mem_of_getElem? (i := 19) (by decide +kernel), List.mem_of_getElem? (i := 567) (by decide +kernel), List.mem_of_getElem? (i := 568) (by decide +kernel)⟩
theorem lw_p9 : lw_okq (⟨"ViewCards$Dating", "findLeaders", "(I)V"⟩, 13) := ⟨⟨by decide +kernel, by decide +kernel⟩, List.mem_of_getElem? (i := 152) (by decide +kernel), List.mem_of_getElem? (i := 598) (by decide +kernel), List.mem_of_getElem? (i := 599) (by decide +kernel)⟩
theorem lw_p10 : lw_okq (⟨"ViewCards$Dating", "openPublished", "(ILViewCards$Lines;)V"⟩, 13) := ⟨⟨by decide +kernel, by decide +kernel⟩, List.mem_of_getElem? (i := 152) (by decide +kernel), List.mem_of_getElem? (i := 608) (by decide +kernel), List.mem_of_getElem? (i := 609) (by decide +kernel)⟩
theorem lw_p11 : lw_okq (⟨"ViewCards$Dating", "narrow", "(I)Z"⟩, 13) := ⟨⟨by decide +kernel, by decide +kernel⟩, List.mem_of_getElem? (i := 152) (by decide +kernel), List.mem_of_getElem? (i := 625) (by decide +kernel), List.mem_of_getElem? (i := 626) (by decide +kernel)⟩
theorem lw_p12 : lw_okq (⟨"ViewCards$Dating", "narrowByFeatures", "(I)V"⟩, 13) := ⟨⟨by decide +kernel, by decide +kernel⟩, List.mem_of_getElem? (i := 152) (by decide +kernel), List.mem_of_getElem? (i := 629) (by decide +kernel), List.mem_of_getElem? (i := 630) (by decide +kernel)⟩
theorem lw_p13 : lw_okq (⟨"ViewCards$Dating", "isSomeEmpty", "(I)Z"⟩, 13) := ⟨⟨by decide +kernel, by decide +kernel⟩, List.mem_of_getElem? (i := 152) (by decide +kernel), List.mem_of_getElem? (i := 634) (by decide +kernel), List.mem_of_getElem? (i := 635) (by decide +kernel)⟩
theorem lw_p14 : lw_okq (⟨"ViewCards$Ground", "isOrdered", "(II)Z"⟩, 4) := ⟨⟨by decide +kernel, by decide +kernel⟩, List.mem_of_getElem? (i := 231) (by decide +kernel), List.mem_of_getElem? (i := 675) (by decide +kernel), List.mem_of_getElem? (i := 676) (by decide +kernel)⟩
theorem lw_p15 : lw_okq (⟨"ViewCards$Ground", "seesAll", "(II)Z"⟩, 4) := ⟨⟨by decide +kernel, by decide +kernel⟩, List.mem_of_getElem? (i := 231) (by decide +kernel), List.mem_of_getElem? (i := 682) (by decide +kernel), List.mem_of_getElem? (i := 683) (by decide +kernel)⟩
def lw_privs_1 : List (MethodName × Nat) := [(⟨"ViewCards$Kin", "fewestOtherwise", "(II)I"⟩, 5), (⟨"ViewCards$Kin", "fewestChanges", "(II)I"⟩, 5), (⟨"ViewCards", "areTwoThere", "(II)Z"⟩, 10), (⟨"ViewCards$Kin", "chained", "(IIZ)I"⟩, 5), (⟨"ViewCards", "timesSeen", "(I)I"⟩, 10), (⟨"ViewCards", "priceOf", "(I)I"⟩, 10), (⟨"ViewCards", "cardsSeen", "(I)I"⟩, 10), (⟨"ViewCards$Kin", "leastOfChains", "(IZ)I"⟩, 5), (⟨"ViewCards", "cardsInBoth", "(II)I"⟩, 10), (⟨"ViewCards$Dating", "findLeaders", "(I)V"⟩, 13), (⟨"ViewCards$Dating", "openPublished", "(ILViewCards$Lines;)V"⟩, 13), (⟨"ViewCards$Dating", "narrow", "(I)Z"⟩, 13), (⟨"ViewCards$Dating", "narrowByFeatures", "(I)V"⟩, 13), (⟨"ViewCards$Dating", "isSomeEmpty", "(I)Z"⟩, 13), (⟨"ViewCards$Ground", "isOrdered", "(II)Z"⟩, 4), (⟨"ViewCards$Ground", "seesAll", "(II)Z"⟩, 4)]
theorem lw_r1 : ∀ q ∈ lw_privs_1, lw_okq q := List.forall_mem_cons.mpr ⟨lw_p0, List.forall_mem_cons.mpr ⟨lw_p1, List.forall_mem_cons.mpr ⟨lw_p2, List.forall_mem_cons.mpr ⟨lw_p3, List.forall_mem_cons.mpr ⟨lw_p4, List.forall_mem_cons.mpr ⟨lw_p5, List.forall_mem_cons.mpr ⟨lw_p6, List.forall_mem_cons.mpr ⟨lw_p7, List.forall_mem_cons.mpr ⟨lw_p8, List.forall_mem_cons.mpr ⟨lw_p9, List.forall_mem_cons.mpr ⟨lw_p10, List.forall_mem_cons.mpr ⟨lw_p11, List.forall_mem_cons.mpr ⟨lw_p12, List.forall_mem_cons.mpr ⟨lw_p13, List.forall_mem_cons.mpr ⟨lw_p14, List.forall_mem_cons.mpr ⟨lw_p15, fun _ h => absurd h List.not_mem_nil⟩⟩⟩⟩⟩⟩⟩⟩⟩⟩⟩⟩⟩⟩⟩⟩
theorem lw_p16 : lw_okq (⟨"ViewCards$Ground", "sees", "(II)Z"⟩, 4) := ⟨⟨by decide +kernel, by decide +kernel⟩, List.mem_of_getElem? (i := 231) (by decide +kernel), List.mem_of_getElem? (i := 686) (by decide +kernel), List.mem_of_getElem? (i := 687) (by decide +kernel)⟩
theorem lw_p17 : lw_okq (⟨"ViewCards$Reader", "goOn", "()V"⟩, 5) := ⟨⟨by decide +kernel, by decide +kernel⟩, List.mem_of_getElem? (i := 255) (by decide +kernel), List.mem_of_getElem? (i := 716) (by decide +kernel), List.mem_of_getElem? (i := 717) (by decide +kernel)⟩
theorem lw_p18 : lw_okq (⟨"ViewCards$Reader", "readLine", "(LViewCards$Lines;)V"⟩, 5) := ⟨⟨by decide +kernel, by decide +kernel⟩, List.mem_of_getElem? (i := 255) (by decide +kernel), List.mem_of_getElem? (i := 728) (by decide +kernel), List.mem_of_getElem? (i := 729) (by decide +kernel)⟩
theorem lw_p19 : lw_okq (⟨"ViewCards$Reader", "readWord", "(Ljava/lang/String;)V"⟩, 5) := ⟨⟨by decide +kernel, by decide +kernel⟩, List.mem_of_getElem? (i := 255) (by decide +kernel), List.mem_of_getElem? (i := 733) (by decide +kernel), List.mem_of_getElem? (i := 734) (by decide +kernel)⟩
theorem lw_p20 : lw_okq (⟨"ViewCards$Reader", "isAt", "(Ljava/lang/String;)Z"⟩, 5) := ⟨⟨by decide +kernel, by decide +kernel⟩, List.mem_of_getElem? (i := 255) (by decide +kernel), List.mem_of_getElem? (i := 737) (by decide +kernel), List.mem_of_getElem? (i := 738) (by decide +kernel)⟩
theorem lw_p21 : lw_okq (⟨"ViewCards$Reader", "findWrong", "()V"⟩, 5) := ⟨⟨by decide +kernel, by decide +kernel⟩, List.mem_of_getElem? (i := 255) (by decide +kernel), List.mem_of_getElem? (i := 789) (by decide +kernel), List.mem_of_getElem? (i := 790) (by decide +kernel)⟩
theorem lw_p22 : lw_okq (⟨"ViewCards$Reader", "readNumber", "(II)I"⟩, 5) := ⟨⟨by decide +kernel, by decide +kernel⟩, List.mem_of_getElem? (i := 255) (by decide +kernel), List.mem_of_getElem? (i := 793) (by decide +kernel), List.mem_of_getElem? (i := 794) (by decide +kernel)⟩
theorem lw_p23 : lw_okq (⟨"ViewCards$Reader", "numberAt", "()I"⟩, 5) := ⟨⟨by decide +kernel, by decide +kernel⟩, List.mem_of_getElem? (i := 255) (by decide +kernel), List.mem_of_getElem? (i := 797) (by decide +kernel), List.mem_of_getElem? (i := 798) (by decide +kernel)⟩
theorem lw_p24 : lw_okq (⟨"ViewCardsModel", "isThere", "(I)Z"⟩, 49) := ⟨⟨by decide +kernel, by decide +kernel⟩, List.mem_of_getElem? (i := 829) (by decide +kernel), List.mem_of_getElem? (i := 997) (by decide +kernel), List.mem_of_getElem? (i := 998) (by decide +kernel)⟩
theorem lw_p25 : lw_okq (⟨"ViewCardsModel", "thereMany", "()I"⟩, 49) := ⟨⟨by decide +kernel, by decide +kernel⟩, List.mem_of_getElem? (i := 829) (by decide +kernel), List.mem_of_getElem? (i := 1001) (by decide +kernel), List.mem_of_getElem? (i := 1002) (by decide +kernel)⟩
theorem lw_p26 : lw_okq (⟨"ViewCardsModel", "unlikeOf", "(II)I"⟩, 49) := ⟨⟨by decide +kernel, by decide +kernel⟩, List.mem_of_getElem? (i := 829) (by decide +kernel), List.mem_of_getElem? (i := 1018) (by decide +kernel), List.mem_of_getElem? (i := 1019) (by decide +kernel)⟩
theorem lw_p27 : lw_okq (⟨"ViewCardsModel", "unlikeBy", "(IIII)I"⟩, 49) := ⟨⟨by decide +kernel, by decide +kernel⟩, List.mem_of_getElem? (i := 829) (by decide +kernel), List.mem_of_getElem? (i := 1022) (by decide +kernel), List.mem_of_getElem? (i := 1023) (by decide +kernel)⟩
theorem lw_p28 : lw_okq (⟨"ViewCardsModel", "farOf", "(II)I"⟩, 49) := ⟨⟨by decide +kernel, by decide +kernel⟩, List.mem_of_getElem? (i := 829) (by decide +kernel), List.mem_of_getElem? (i := 1033) (by decide +kernel), List.mem_of_getElem? (i := 1034) (by decide +kernel)⟩
theorem lw_p29 : lw_okq (⟨"ViewCardsModel", "findUnlike", "()V"⟩, 49) := ⟨⟨by decide +kernel, by decide +kernel⟩, List.mem_of_getElem? (i := 829) (by decide +kernel), List.mem_of_getElem? (i := 1041) (by decide +kernel), List.mem_of_getElem? (i := 1042) (by decide +kernel)⟩
theorem lw_p30 : lw_okq (⟨"ViewCardsModel", "isMatch", "(II)Z"⟩, 49) := ⟨⟨by decide +kernel, by decide +kernel⟩, List.mem_of_getElem? (i := 829) (by decide +kernel), List.mem_of_getElem? (i := 1045) (by decide +kernel), List.mem_of_getElem? (i := 1046) (by decide +kernel)⟩
theorem lw_p31 : lw_okq (⟨"ViewCardsModel", "isLike", "(II)Z"⟩, 49) := ⟨⟨by decide +kernel, by decide +kernel⟩, List.mem_of_getElem? (i := 829) (by decide +kernel), List.mem_of_getElem? (i := 1049) (by decide +kernel), List.mem_of_getElem? (i := 1050) (by decide +kernel)⟩
def lw_privs_2 : List (MethodName × Nat) := [(⟨"ViewCards$Ground", "sees", "(II)Z"⟩, 4), (⟨"ViewCards$Reader", "goOn", "()V"⟩, 5), (⟨"ViewCards$Reader", "readLine", "(LViewCards$Lines;)V"⟩, 5), (⟨"ViewCards$Reader", "readWord", "(Ljava/lang/String;)V"⟩, 5), (⟨"ViewCards$Reader", "isAt", "(Ljava/lang/String;)Z"⟩, 5), (⟨"ViewCards$Reader", "findWrong", "()V"⟩, 5), (⟨"ViewCards$Reader", "readNumber", "(II)I"⟩, 5), (⟨"ViewCards$Reader", "numberAt", "()I"⟩, 5), (⟨"ViewCardsModel", "isThere", "(I)Z"⟩, 49), (⟨"ViewCardsModel", "thereMany", "()I"⟩, 49), (⟨"ViewCardsModel", "unlikeOf", "(II)I"⟩, 49), (⟨"ViewCardsModel", "unlikeBy", "(IIII)I"⟩, 49), (⟨"ViewCardsModel", "farOf", "(II)I"⟩, 49), (⟨"ViewCardsModel", "findUnlike", "()V"⟩, 49), (⟨"ViewCardsModel", "isMatch", "(II)Z"⟩, 49), (⟨"ViewCardsModel", "isLike", "(II)Z"⟩, 49)]
theorem lw_r2 : ∀ q ∈ lw_privs_2, lw_okq q := List.forall_mem_cons.mpr ⟨lw_p16, List.forall_mem_cons.mpr ⟨lw_p17, List.forall_mem_cons.mpr ⟨lw_p18, List.forall_mem_cons.mpr ⟨lw_p19, List.forall_mem_cons.mpr ⟨lw_p20, List.forall_mem_cons.mpr ⟨lw_p21, List.forall_mem_cons.mpr ⟨lw_p22, List.forall_mem_cons.mpr ⟨lw_p23, List.forall_mem_cons.mpr ⟨lw_p24, List.forall_mem_cons.mpr ⟨lw_p25, List.forall_mem_cons.mpr ⟨lw_p26, List.forall_mem_cons.mpr ⟨lw_p27, List.forall_mem_cons.mpr ⟨lw_p28, List.forall_mem_cons.mpr ⟨lw_p29, List.forall_mem_cons.mpr ⟨lw_p30, List.forall_mem_cons.mpr ⟨lw_p31, fun _ h => absurd h List.not_mem_nil⟩⟩⟩⟩⟩⟩⟩⟩⟩⟩⟩⟩⟩⟩⟩⟩
theorem lw_p32 : lw_okq (⟨"ViewCardsModel", "findChains", "([IZI)V"⟩, 49) := ⟨⟨by decide +kernel, by decide +kernel⟩, List.mem_of_getElem? (i := 829) (by decide +kernel), List.mem_of_getElem? (i := 1057) (by decide +kernel), List.mem_of_getElem? (i := 1058) (by decide +kernel)⟩
theorem lw_p33 : lw_okq (⟨"ViewCardsModel", "listsOf", "(I)I"⟩, 49) := ⟨⟨by decide +kernel, by decide +kernel⟩, List.mem_of_getElem? (i := 829) (by decide +kernel), List.mem_of_getElem? (i := 1068) (by decide +kernel), List.mem_of_getElem? (i := 1069) (by decide +kernel)⟩
theorem lw_p34 : lw_okq (⟨"ViewCardsModel", "rivalsOf", "(I)I"⟩, 49) := ⟨⟨by decide +kernel, by decide +kernel⟩, List.mem_of_getElem? (i := 829) (by decide +kernel), List.mem_of_getElem? (i := 1072) (by decide +kernel), List.mem_of_getElem? (i := 1073) (by decide +kernel)⟩
theorem lw_p35 : lw_okq (⟨"ViewCardsModel", "priceOf", "(I)I"⟩, 49) := ⟨⟨by decide +kernel, by decide +kernel⟩, List.mem_of_getElem? (i := 829) (by decide +kernel), List.mem_of_getElem? (i := 1076) (by decide +kernel), List.mem_of_getElem? (i := 1077) (by decide +kernel)⟩
theorem lw_p36 : lw_okq (⟨"ViewCardsModel", "isMissing", "(II)Z"⟩, 49) := ⟨⟨by decide +kernel, by decide +kernel⟩, List.mem_of_getElem? (i := 829) (by decide +kernel), List.mem_of_getElem? (i := 1080) (by decide +kernel), List.mem_of_getElem? (i := 1081) (by decide +kernel)⟩
theorem lw_p37 : lw_okq (⟨"ViewCardsModel", "endOf", "(II)I"⟩, 49) := ⟨⟨by decide +kernel, by decide +kernel⟩, List.mem_of_getElem? (i := 829) (by decide +kernel), List.mem_of_getElem? (i := 1084) (by decide +kernel), List.mem_of_getElem? (i := 1085) (by decide +kernel)⟩
theorem lw_p38 : lw_okq (⟨"ViewCardsModel", "hasNumber", "(II)Z"⟩, 49) := ⟨⟨by decide +kernel, by decide +kernel⟩, List.mem_of_getElem? (i := 829) (by decide +kernel), List.mem_of_getElem? (i := 1088) (by decide +kernel), List.mem_of_getElem? (i := 1089) (by decide +kernel)⟩
theorem lw_p39 : lw_okq (⟨"ViewCardsModel", "areSpans", "(IZ)Z"⟩, 49) := ⟨⟨by decide +kernel, by decide +kernel⟩, List.mem_of_getElem? (i := 829) (by decide +kernel), List.mem_of_getElem? (i := 1137) (by decide +kernel), List.mem_of_getElem? (i := 1138) (by decide +kernel)⟩
theorem lw_p40 : lw_okq (⟨"ViewCardsModel", "isEmpty", "(I)Z"⟩, 49) := ⟨⟨by decide +kernel, by decide +kernel⟩, List.mem_of_getElem? (i := 829) (by decide +kernel), List.mem_of_getElem? (i := 1141) (by decide +kernel), List.mem_of_getElem? (i := 1142) (by decide +kernel)⟩
theorem lw_p41 : lw_okq (⟨"ViewCardsModel", "narrow", "(IZ)V"⟩, 49) := ⟨⟨by decide +kernel, by decide +kernel⟩, List.mem_of_getElem? (i := 829) (by decide +kernel), List.mem_of_getElem? (i := 1145) (by decide +kernel), List.mem_of_getElem? (i := 1146) (by decide +kernel)⟩
theorem lw_p42 : lw_okq (⟨"ViewCardsModel", "takenIn", "(III)V"⟩, 49) := ⟨⟨by decide +kernel, by decide +kernel⟩, List.mem_of_getElem? (i := 829) (by decide +kernel), List.mem_of_getElem? (i := 1149) (by decide +kernel), List.mem_of_getElem? (i := 1150) (by decide +kernel)⟩
theorem lw_p43 : lw_okq (⟨"ViewCardsModel", "outIn", "(III)V"⟩, 49) := ⟨⟨by decide +kernel, by decide +kernel⟩, List.mem_of_getElem? (i := 829) (by decide +kernel), List.mem_of_getElem? (i := 1153) (by decide +kernel), List.mem_of_getElem? (i := 1154) (by decide +kernel)⟩
theorem lw_p44 : lw_okq (⟨"ViewCardsModel", "isOf", "(II)Z"⟩, 49) := ⟨⟨by decide +kernel, by decide +kernel⟩, List.mem_of_getElem? (i := 829) (by decide +kernel), List.mem_of_getElem? (i := 1157) (by decide +kernel), List.mem_of_getElem? (i := 1158) (by decide +kernel)⟩
theorem lw_p45 : lw_okq (⟨"ViewCardsModel", "stoodOf", "(I)J"⟩, 49) := ⟨⟨by decide +kernel, by decide +kernel⟩, List.mem_of_getElem? (i := 829) (by decide +kernel), List.mem_of_getElem? (i := 1189) (by decide +kernel), List.mem_of_getElem? (i := 1190) (by decide +kernel)⟩
theorem lw_p46 : lw_okq (⟨"ViewCardsModel", "mayStand", "(II)Z"⟩, 49) := ⟨⟨by decide +kernel, by decide +kernel⟩, List.mem_of_getElem? (i := 829) (by decide +kernel), List.mem_of_getElem? (i := 1193) (by decide +kernel), List.mem_of_getElem? (i := 1194) (by decide +kernel)⟩
theorem lw_p47 : lw_okq (⟨"ViewCardsModel", "isWall", "(I)Z"⟩, 49) := ⟨⟨by decide +kernel, by decide +kernel⟩, List.mem_of_getElem? (i := 829) (by decide +kernel), List.mem_of_getElem? (i := 1197) (by decide +kernel), List.mem_of_getElem? (i := 1198) (by decide +kernel)⟩
def lw_privs_3 : List (MethodName × Nat) := [(⟨"ViewCardsModel", "findChains", "([IZI)V"⟩, 49), (⟨"ViewCardsModel", "listsOf", "(I)I"⟩, 49), (⟨"ViewCardsModel", "rivalsOf", "(I)I"⟩, 49), (⟨"ViewCardsModel", "priceOf", "(I)I"⟩, 49), (⟨"ViewCardsModel", "isMissing", "(II)Z"⟩, 49), (⟨"ViewCardsModel", "endOf", "(II)I"⟩, 49), (⟨"ViewCardsModel", "hasNumber", "(II)Z"⟩, 49), (⟨"ViewCardsModel", "areSpans", "(IZ)Z"⟩, 49), (⟨"ViewCardsModel", "isEmpty", "(I)Z"⟩, 49), (⟨"ViewCardsModel", "narrow", "(IZ)V"⟩, 49), (⟨"ViewCardsModel", "takenIn", "(III)V"⟩, 49), (⟨"ViewCardsModel", "outIn", "(III)V"⟩, 49), (⟨"ViewCardsModel", "isOf", "(II)Z"⟩, 49), (⟨"ViewCardsModel", "stoodOf", "(I)J"⟩, 49), (⟨"ViewCardsModel", "mayStand", "(II)Z"⟩, 49), (⟨"ViewCardsModel", "isWall", "(I)Z"⟩, 49)]
theorem lw_r3 : ∀ q ∈ lw_privs_3, lw_okq q := List.forall_mem_cons.mpr ⟨lw_p32, List.forall_mem_cons.mpr ⟨lw_p33, List.forall_mem_cons.mpr ⟨lw_p34, List.forall_mem_cons.mpr ⟨lw_p35, List.forall_mem_cons.mpr ⟨lw_p36, List.forall_mem_cons.mpr ⟨lw_p37, List.forall_mem_cons.mpr ⟨lw_p38, List.forall_mem_cons.mpr ⟨lw_p39, List.forall_mem_cons.mpr ⟨lw_p40, List.forall_mem_cons.mpr ⟨lw_p41, List.forall_mem_cons.mpr ⟨lw_p42, List.forall_mem_cons.mpr ⟨lw_p43, List.forall_mem_cons.mpr ⟨lw_p44, List.forall_mem_cons.mpr ⟨lw_p45, List.forall_mem_cons.mpr ⟨lw_p46, List.forall_mem_cons.mpr ⟨lw_p47, fun _ h => absurd h List.not_mem_nil⟩⟩⟩⟩⟩⟩⟩⟩⟩⟩⟩⟩⟩⟩⟩⟩
theorem lw_p48 : lw_okq (⟨"ViewCardsModel", "isSeen", "(II)Z"⟩, 49) := ⟨⟨by decide +kernel, by decide +kernel⟩, List.mem_of_getElem? (i := 829) (by decide +kernel), List.mem_of_getElem? (i := 1201) (by decide +kernel), List.mem_of_getElem? (i := 1202) (by decide +kernel)⟩
theorem lw_p49 : lw_okq (⟨"ViewCardsModel", "isOrdered", "(III)Z"⟩, 49) := ⟨⟨by decide +kernel, by decide +kernel⟩, List.mem_of_getElem? (i := 829) (by decide +kernel), List.mem_of_getElem? (i := 1205) (by decide +kernel), List.mem_of_getElem? (i := 1206) (by decide +kernel)⟩
theorem lw_p50 : lw_okq (⟨"ViewCardsModel", "isRead", "()Z"⟩, 49) := ⟨⟨by decide +kernel, by decide +kernel⟩, List.mem_of_getElem? (i := 829) (by decide +kernel), List.mem_of_getElem? (i := 1226) (by decide +kernel), List.mem_of_getElem? (i := 1227) (by decide +kernel)⟩
theorem lw_p51 : lw_okq (⟨"ViewCardsModel", "isLine", "(I)Z"⟩, 49) := ⟨⟨by decide +kernel, by decide +kernel⟩, List.mem_of_getElem? (i := 829) (by decide +kernel), List.mem_of_getElem? (i := 1230) (by decide +kernel), List.mem_of_getElem? (i := 1231) (by decide +kernel)⟩
theorem lw_p52 : lw_okq (⟨"ViewCardsModel", "isWord", "(J)Z"⟩, 49) := ⟨⟨by decide +kernel, by decide +kernel⟩, List.mem_of_getElem? (i := 829) (by decide +kernel), List.mem_of_getElem? (i := 1235) (by decide +kernel), List.mem_of_getElem? (i := 1236) (by decide +kernel)⟩
theorem lw_p53 : lw_okq (⟨"ViewCardsModel", "nextToken", "()V"⟩, 49) := ⟨⟨by decide +kernel, by decide +kernel⟩, List.mem_of_getElem? (i := 829) (by decide +kernel), List.mem_of_getElem? (i := 1239) (by decide +kernel), List.mem_of_getElem? (i := 1240) (by decide +kernel)⟩
theorem lw_p54 : lw_okq (⟨"ViewCardsModel", "fails", "()Z"⟩, 49) := ⟨⟨by decide +kernel, by decide +kernel⟩, List.mem_of_getElem? (i := 829) (by decide +kernel), List.mem_of_getElem? (i := 1248) (by decide +kernel), List.mem_of_getElem? (i := 1249) (by decide +kernel)⟩
theorem lw_p55 : lw_okq (⟨"ViewCardsModel", "isNumber", "(III)Z"⟩, 49) := ⟨⟨by decide +kernel, by decide +kernel⟩, List.mem_of_getElem? (i := 829) (by decide +kernel), List.mem_of_getElem? (i := 1252) (by decide +kernel), List.mem_of_getElem? (i := 1253) (by decide +kernel)⟩
def lw_privs_4 : List (MethodName × Nat) := [(⟨"ViewCardsModel", "isSeen", "(II)Z"⟩, 49), (⟨"ViewCardsModel", "isOrdered", "(III)Z"⟩, 49), (⟨"ViewCardsModel", "isRead", "()Z"⟩, 49), (⟨"ViewCardsModel", "isLine", "(I)Z"⟩, 49), (⟨"ViewCardsModel", "isWord", "(J)Z"⟩, 49), (⟨"ViewCardsModel", "nextToken", "()V"⟩, 49), (⟨"ViewCardsModel", "fails", "()Z"⟩, 49), (⟨"ViewCardsModel", "isNumber", "(III)Z"⟩, 49)]
theorem lw_r4 : ∀ q ∈ lw_privs_4, lw_okq q := List.forall_mem_cons.mpr ⟨lw_p48, List.forall_mem_cons.mpr ⟨lw_p49, List.forall_mem_cons.mpr ⟨lw_p50, List.forall_mem_cons.mpr ⟨lw_p51, List.forall_mem_cons.mpr ⟨lw_p52, List.forall_mem_cons.mpr ⟨lw_p53, List.forall_mem_cons.mpr ⟨lw_p54, List.forall_mem_cons.mpr ⟨lw_p55, fun _ h => absurd h List.not_mem_nil⟩⟩⟩⟩⟩⟩⟩⟩
def lw_privs : List (MethodName × Nat) := lw_privs_1 ++ (lw_privs_2 ++ (lw_privs_3 ++ (lw_privs_4)))
def lw_tbl : List Cond := k2_sels lw_privs ++ tables_1
theorem lw_privs_ok : ∀ q ∈ lw_privs, lw_okq q := by
  show ∀ q ∈ lw_privs_1 ++ (lw_privs_2 ++ (lw_privs_3 ++ (lw_privs_4))), lw_okq q
  exact List.forall_mem_append.mpr ⟨lw_r1, List.forall_mem_append.mpr ⟨lw_r2, List.forall_mem_append.mpr ⟨lw_r3, lw_r4⟩⟩⟩
end
section
def RX0 : String := "ViewCards$Album"
def TX0 : u_T := fun k => match k with
  | 0 => ("ViewCards$Album", "list", "[I", true)
  | 1 => ("ViewCards$Album", "publisher", "[I", true)
  | 2 => ("ViewCards$Album", "number", "[I", true)
  | 3 => ("ViewCards$Album", "backOf", "[I", true)
  | 4 => ("ViewCards$Album", "picture", "[J", true)
  | 5 => ("ViewCards$Album", "sky", "[I", true)
  | 6 => ("ViewCards$Album", "posted", "[I", true)
  | 7 => ("ViewCards$Album", "toldOn", "[I", true)
  | 8 => ("ViewCards$Album", "word", "[J", true)
  | 9 => ("ViewCards$Album", "letters", "[I", true)
  | 10 => ("ViewCards$Album", "size", "I", false)
  | 11 => ("ViewCards$Album", "theDay", "I", false)
  | _ => ("ViewCards$Album", "asOf", "I", false)
def tyX0 : Nat → FieldType := fun k => match k with
  | 0 => .array .int
  | 1 => .array .int
  | 2 => .array .int
  | 3 => .array .int
  | 4 => .array .long
  | 5 => .array .int
  | 6 => .array .int
  | 7 => .array .int
  | 8 => .array .long
  | 9 => .array .int
  | 10 => .int
  | 11 => .int
  | _ => .int
theorem nmX0 : ∀ a, a < 13 → ∀ b, b < 13 → a ≠ b → (TX0 a).2.1 ≠ (TX0 b).2.1 := by decide +kernel
theorem tyX0_ok : ∀ k, k < 13 → parseFieldDescriptor (TX0 k).2.2.1 = some (tyX0 k) := by decide +kernel
abbrev cX0_init : ByteArray := prog_2_method_1_code
def yX0_init : MethodName := ⟨RX0, "<init>", "()V"⟩
abbrev cX0_tell : ByteArray := prog_2_method_2_code
def yX0_tell : MethodName := ⟨RX0, "tell", "(IIIIJII)V"⟩
abbrev cX0_isThere : ByteArray := prog_2_method_3_code
def yX0_isThere : MethodName := ⟨RX0, "isThere", "(I)Z"⟩
abbrev cX0_there : ByteArray := prog_2_method_4_code
def yX0_there : MethodName := ⟨RX0, "there", "()I"⟩
abbrev cX0_listsOf : ByteArray := prog_2_method_5_code
def yX0_listsOf : MethodName := ⟨RX0, "listsOf", "(I)I"⟩
abbrev cX0_publishersOf : ByteArray := prog_2_method_6_code
def yX0_publishersOf : MethodName := ⟨RX0, "publishersOf", "(I)I"⟩
abbrev cX0_valuesOf : ByteArray := prog_2_method_7_code
def yX0_valuesOf : MethodName := ⟨RX0, "valuesOf", "(I[I)I"⟩
def RX1 : String := "ViewCards$Dating"
def TX1 : u_T := fun k => match k with
  | 0 => ("ViewCards$Dating", "album", "LViewCards$Album;", true)
  | 1 => ("ViewCards$Dating", "kin", "LViewCards$Kin;", true)
  | 2 => ("ViewCards$Dating", "featureFrom", "[I", true)
  | 3 => ("ViewCards$Dating", "featureTo", "[I", true)
  | 4 => ("ViewCards$Dating", "backFrom", "[I", true)
  | 5 => ("ViewCards$Dating", "backTo", "[I", true)
  | 6 => ("ViewCards$Dating", "showing", "[[I", true)
  | 7 => ("ViewCards$Dating", "laterOne", "[I", true)
  | 8 => ("ViewCards$Dating", "earlierOne", "[I", true)
  | 9 => ("ViewCards$Dating", "laters", "I", false)
  | 10 => ("ViewCards$Dating", "taken", "LViewCards$Spans;", true)
  | 11 => ("ViewCards$Dating", "published", "LViewCards$Spans;", true)
  | _ => ("ViewCards$Dating", "leader", "[I", true)
def tyX1 : Nat → FieldType := fun k => match k with
  | 0 => .object "ViewCards$Album"
  | 1 => .object "ViewCards$Kin"
  | 2 => .array .int
  | 3 => .array .int
  | 4 => .array .int
  | 5 => .array .int
  | 6 => .array (.array .int)
  | 7 => .array .int
  | 8 => .array .int
  | 9 => .int
  | 10 => .object "ViewCards$Spans"
  | 11 => .object "ViewCards$Spans"
  | _ => .array .int
theorem nmX1 : ∀ a, a < 13 → ∀ b, b < 13 → a ≠ b → (TX1 a).2.1 ≠ (TX1 b).2.1 := by decide +kernel
theorem tyX1_ok : ∀ k, k < 13 → parseFieldDescriptor (TX1 k).2.2.1 = some (tyX1 k) := by decide +kernel
abbrev cX1_init : ByteArray := prog_3_method_1_code
def yX1_init : MethodName := ⟨RX1, "<init>", "(LViewCards$Album;LViewCards$Kin;)V"⟩
abbrev cX1_settle : ByteArray := prog_3_method_2_code
def yX1_settle : MethodName := ⟨RX1, "settle", "(ILViewCards$Lines;)Z"⟩
abbrev cX1_findLeaders : ByteArray := prog_3_method_3_code
def yX1_findLeaders : MethodName := ⟨RX1, "findLeaders", "(I)V"⟩
abbrev cX1_openPublished : ByteArray := prog_3_method_4_code
def yX1_openPublished : MethodName := ⟨RX1, "openPublished", "(ILViewCards$Lines;)V"⟩
abbrev cX1_narrow : ByteArray := prog_3_method_5_code
def yX1_narrow : MethodName := ⟨RX1, "narrow", "(I)Z"⟩
abbrev cX1_narrowByFeatures : ByteArray := prog_3_method_6_code
def yX1_narrowByFeatures : MethodName := ⟨RX1, "narrowByFeatures", "(I)V"⟩
abbrev cX1_isSomeEmpty : ByteArray := prog_3_method_7_code
def yX1_isSomeEmpty : MethodName := ⟨RX1, "isSomeEmpty", "(I)Z"⟩
abbrev cX1_canBePublished : ByteArray := prog_3_method_8_code
def yX1_canBePublished : MethodName := ⟨RX1, "canBePublished", "(III)Z"⟩
def RX2 : String := "ViewCards$Ground"
def TX2 : u_T := fun k => match k with
  | 0 => ("ViewCards$Ground", "cellOf", "[I", true)
  | 1 => ("ViewCards$Ground", "walled", "J", false)
  | 2 => ("ViewCards$Ground", "seen", "[[I", true)
  | _ => ("ViewCards$Ground", "inView", "[I", true)
def tyX2 : Nat → FieldType := fun k => match k with
  | 0 => .array .int
  | 1 => .long
  | 2 => .array (.array .int)
  | _ => .array .int
theorem nmX2 : ∀ a, a < 4 → ∀ b, b < 4 → a ≠ b → (TX2 a).2.1 ≠ (TX2 b).2.1 := by decide +kernel
theorem tyX2_ok : ∀ k, k < 4 → parseFieldDescriptor (TX2 k).2.2.1 = some (tyX2 k) := by decide +kernel
abbrev cX2_init : ByteArray := prog_4_method_1_code
def yX2_init : MethodName := ⟨RX2, "<init>", "()V"⟩
abbrev cX2_isInView : ByteArray := prog_4_method_2_code
def yX2_isInView : MethodName := ⟨RX2, "isInView", "(II)Z"⟩
abbrev cX2_standing : ByteArray := prog_4_method_3_code
def yX2_standing : MethodName := ⟨RX2, "standing", "(I)J"⟩
abbrev cX2_isOrdered : ByteArray := prog_4_method_4_code
def yX2_isOrdered : MethodName := ⟨RX2, "isOrdered", "(II)Z"⟩
abbrev cX2_isLeftOf : ByteArray := prog_4_method_5_code
def yX2_isLeftOf : MethodName := ⟨RX2, "isLeftOf", "(III)Z"⟩
abbrev cX2_seesAll : ByteArray := prog_4_method_6_code
def yX2_seesAll : MethodName := ⟨RX2, "seesAll", "(II)Z"⟩
abbrev cX2_sees : ByteArray := prog_4_method_7_code
def yX2_sees : MethodName := ⟨RX2, "sees", "(II)Z"⟩
def RX3 : String := "ViewCards$Kin"
def TX3 : u_T := fun k => match k with
  | 0 => ("ViewCards$Kin", "album", "LViewCards$Album;", true)
  | 1 => ("ViewCards$Kin", "otherwise", "[[I", true)
  | 2 => ("ViewCards$Kin", "changes", "[[I", true)
  | 3 => ("ViewCards$Kin", "row", "[I", true)
  | _ => ("ViewCards$Kin", "slack", "I", false)
def tyX3 : Nat → FieldType := fun k => match k with
  | 0 => .object "ViewCards$Album"
  | 1 => .array (.array .int)
  | 2 => .array (.array .int)
  | 3 => .array .int
  | _ => .int
theorem nmX3 : ∀ a, a < 5 → ∀ b, b < 5 → a ≠ b → (TX3 a).2.1 ≠ (TX3 b).2.1 := by decide +kernel
theorem tyX3_ok : ∀ k, k < 5 → parseFieldDescriptor (TX3 k).2.2.1 = some (tyX3 k) := by decide +kernel
abbrev cX3_init : ByteArray := prog_5_method_1_code
def yX3_init : MethodName := ⟨RX3, "<init>", "(LViewCards$Album;)V"⟩
abbrev cX3_comparePicture : ByteArray := prog_5_method_2_code
def yX3_comparePicture : MethodName := ⟨RX3, "comparePicture", "(I)V"⟩
abbrev cX3_fewestOtherwise : ByteArray := prog_5_method_3_code
def yX3_fewestOtherwise : MethodName := ⟨RX3, "fewestOtherwise", "(II)I"⟩
abbrev cX3_cellsInBoth : ByteArray := prog_5_method_4_code
def yX3_cellsInBoth : MethodName := ⟨RX3, "cellsInBoth", "(IIII)J"⟩
abbrev cX3_moved : ByteArray := prog_5_method_5_code
def yX3_moved : MethodName := ⟨RX3, "moved", "(JI)J"⟩
abbrev cX3_compareWord : ByteArray := prog_5_method_6_code
def yX3_compareWord : MethodName := ⟨RX3, "compareWord", "(I)V"⟩
abbrev cX3_fewestChanges : ByteArray := prog_5_method_7_code
def yX3_fewestChanges : MethodName := ⟨RX3, "fewestChanges", "(II)I"⟩
abbrev cX3_isLike : ByteArray := prog_5_method_8_code
def yX3_isLike : MethodName := ⟨RX3, "isLike", "(II)Z"⟩
abbrev cX3_isMatch : ByteArray := prog_5_method_9_code
def yX3_isMatch : MethodName := ⟨RX3, "isMatch", "(II)Z"⟩
abbrev cX3_sameNegative : ByteArray := prog_5_method_10_code
def yX3_sameNegative : MethodName := ⟨RX3, "sameNegative", "(II)I"⟩
abbrev cX3_sameCard : ByteArray := prog_5_method_11_code
def yX3_sameCard : MethodName := ⟨RX3, "sameCard", "(II)I"⟩
abbrev cX3_chained : ByteArray := prog_5_method_12_code
def yX3_chained : MethodName := ⟨RX3, "chained", "(IIZ)I"⟩
abbrev cX3_negatives : ByteArray := prog_5_method_13_code
def yX3_negatives : MethodName := ⟨RX3, "negatives", "(I)I"⟩
abbrev cX3_differentCards : ByteArray := prog_5_method_14_code
def yX3_differentCards : MethodName := ⟨RX3, "differentCards", "(I)I"⟩
abbrev cX3_leastOfChains : ByteArray := prog_5_method_15_code
def yX3_leastOfChains : MethodName := ⟨RX3, "leastOfChains", "(IZ)I"⟩
abbrev cX3_rivals : ByteArray := prog_5_method_16_code
def yX3_rivals : MethodName := ⟨RX3, "rivals", "(II)I"⟩
def RX4 : String := "ViewCards$Lines"
def TX4 : u_T := fun k => match k with
  | 0 => ("ViewCards$Lines", "publisher", "[I", true)
  | 1 => ("ViewCards$Lines", "first", "[I", true)
  | 2 => ("ViewCards$Lines", "last", "[I", true)
  | 3 => ("ViewCards$Lines", "isOfDays", "[Z", true)
  | 4 => ("ViewCards$Lines", "low", "[I", true)
  | 5 => ("ViewCards$Lines", "high", "[I", true)
  | _ => ("ViewCards$Lines", "size", "I", false)
def tyX4 : Nat → FieldType := fun k => match k with
  | 0 => .array .int
  | 1 => .array .int
  | 2 => .array .int
  | 3 => .array .boolean
  | 4 => .array .int
  | 5 => .array .int
  | _ => .int
theorem nmX4 : ∀ a, a < 7 → ∀ b, b < 7 → a ≠ b → (TX4 a).2.1 ≠ (TX4 b).2.1 := by decide +kernel
theorem tyX4_ok : ∀ k, k < 7 → parseFieldDescriptor (TX4 k).2.2.1 = some (tyX4 k) := by decide +kernel
abbrev cX4_init : ByteArray := prog_6_method_1_code
def yX4_init : MethodName := ⟨RX4, "<init>", "()V"⟩
abbrev cX4_isFor : ByteArray := prog_6_method_2_code
def yX4_isFor : MethodName := ⟨RX4, "isFor", "(III)Z"⟩
def RX5 : String := "ViewCards$Numbers"
def TX5 : u_T := fun k => match k with
  | 0 => ("ViewCards$Numbers", "album", "LViewCards$Album;", true)
  | 1 => ("ViewCards$Numbers", "isBorne", "[Z", true)
  | 2 => ("ViewCards$Numbers", "size", "I", false)
  | 3 => ("ViewCards$Numbers", "least", "I", false)
  | _ => ("ViewCards$Numbers", "greatest", "I", false)
def tyX5 : Nat → FieldType := fun k => match k with
  | 0 => .object "ViewCards$Album"
  | 1 => .array .boolean
  | 2 => .int
  | 3 => .int
  | _ => .int
theorem nmX5 : ∀ a, a < 5 → ∀ b, b < 5 → a ≠ b → (TX5 a).2.1 ≠ (TX5 b).2.1 := by decide +kernel
theorem tyX5_ok : ∀ k, k < 5 → parseFieldDescriptor (TX5 k).2.2.1 = some (tyX5 k) := by decide +kernel
abbrev cX5_init : ByteArray := prog_7_method_1_code
def yX5_init : MethodName := ⟨RX5, "<init>", "(LViewCards$Album;)V"⟩
abbrev cX5_gather : ByteArray := prog_7_method_2_code
def yX5_gather : MethodName := ⟨RX5, "gather", "(I)V"⟩
abbrev cX5_isMissing : ByteArray := prog_7_method_3_code
def yX5_isMissing : MethodName := ⟨RX5, "isMissing", "(I)Z"⟩
abbrev cX5_isByGap : ByteArray := prog_7_method_4_code
def yX5_isByGap : MethodName := ⟨RX5, "isByGap", "(I)Z"⟩
abbrev cX5_missing : ByteArray := prog_7_method_5_code
def yX5_missing : MethodName := ⟨RX5, "missing", "()I"⟩
abbrev cX5_gaps : ByteArray := prog_7_method_6_code
def yX5_gaps : MethodName := ⟨RX5, "gaps", "()I"⟩
abbrev cX5_gapAt : ByteArray := prog_7_method_7_code
def yX5_gapAt : MethodName := ⟨RX5, "gapAt", "(I)I"⟩
def RX6 : String := "ViewCards$Reader"
def TX6 : u_T := fun k => match k with
  | 0 => ("ViewCards$Reader", "text", "[I", true)
  | 1 => ("ViewCards$Reader", "size", "I", false)
  | 2 => ("ViewCards$Reader", "start", "I", false)
  | 3 => ("ViewCards$Reader", "end", "I", false)
  | _ => ("ViewCards$Reader", "wrongAt", "I", false)
def tyX6 : Nat → FieldType := fun k => match k with
  | 0 => .array .int
  | 1 => .int
  | 2 => .int
  | 3 => .int
  | _ => .int
theorem nmX6 : ∀ a, a < 5 → ∀ b, b < 5 → a ≠ b → (TX6 a).2.1 ≠ (TX6 b).2.1 := by decide +kernel
theorem tyX6_ok : ∀ k, k < 5 → parseFieldDescriptor (TX6 k).2.2.1 = some (tyX6 k) := by decide +kernel
abbrev cX6_init : ByteArray := prog_8_method_1_code
def yX6_init : MethodName := ⟨RX6, "<init>", "()V"⟩
abbrev cX6_read : ByteArray := prog_8_method_2_code
def yX6_read : MethodName := ⟨RX6, "read", "(LViewCards$Lines;)I"⟩
abbrev cX6_readLine : ByteArray := prog_8_method_3_code
def yX6_readLine : MethodName := ⟨RX6, "readLine", "(LViewCards$Lines;)V"⟩
abbrev cX6_findWrong : ByteArray := prog_8_method_4_code
def yX6_findWrong : MethodName := ⟨RX6, "findWrong", "()V"⟩
abbrev cX6_readWord : ByteArray := prog_8_method_5_code
def yX6_readWord : MethodName := ⟨RX6, "readWord", "(Ljava/lang/String;)V"⟩
abbrev cX6_readNumber : ByteArray := prog_8_method_6_code
def yX6_readNumber : MethodName := ⟨RX6, "readNumber", "(II)I"⟩
abbrev cX6_isAt : ByteArray := prog_8_method_7_code
def yX6_isAt : MethodName := ⟨RX6, "isAt", "(Ljava/lang/String;)Z"⟩
abbrev cX6_numberAt : ByteArray := prog_8_method_8_code
def yX6_numberAt : MethodName := ⟨RX6, "numberAt", "()I"⟩
abbrev cX6_goOn : ByteArray := prog_8_method_9_code
def yX6_goOn : MethodName := ⟨RX6, "goOn", "()V"⟩
abbrev cX6_isOneRow : ByteArray := prog_8_method_10_code
def yX6_isOneRow : MethodName := ⟨RX6, "isOneRow", "(II)Z"⟩
def RX7 : String := "ViewCards$Spans"
def TX7 : u_T := fun k => match k with
  | 0 => ("ViewCards$Spans", "from", "[I", true)
  | 1 => ("ViewCards$Spans", "to", "[I", true)
  | _ => ("ViewCards$Spans", "isChanged", "Z", false)
def tyX7 : Nat → FieldType := fun k => match k with
  | 0 => .array .int
  | 1 => .array .int
  | _ => .boolean
theorem nmX7 : ∀ a, a < 3 → ∀ b, b < 3 → a ≠ b → (TX7 a).2.1 ≠ (TX7 b).2.1 := by decide +kernel
theorem tyX7_ok : ∀ k, k < 3 → parseFieldDescriptor (TX7 k).2.2.1 = some (tyX7 k) := by decide +kernel
abbrev cX7_init : ByteArray := prog_9_method_1_code
def yX7_init : MethodName := ⟨RX7, "<init>", "()V"⟩
abbrev cX7_open : ByteArray := prog_9_method_2_code
def yX7_open : MethodName := ⟨RX7, "open", "(III)V"⟩
abbrev cX7_notBefore : ByteArray := prog_9_method_3_code
def yX7_notBefore : MethodName := ⟨RX7, "notBefore", "(II)V"⟩
abbrev cX7_notBehind : ByteArray := prog_9_method_4_code
def yX7_notBehind : MethodName := ⟨RX7, "notBehind", "(II)V"⟩
def RX8 : String := "ViewCards"
def TX8 : u_T := fun k => match k with
  | 0 => ("ViewCards", "album", "LViewCards$Album;", true)
  | 1 => ("ViewCards", "kin", "LViewCards$Kin;", true)
  | 2 => ("ViewCards", "numbers", "LViewCards$Numbers;", true)
  | 3 => ("ViewCards", "dating", "LViewCards$Dating;", true)
  | 4 => ("ViewCards", "ground", "LViewCards$Ground;", true)
  | 5 => ("ViewCards", "reader", "LViewCards$Reader;", true)
  | 6 => ("ViewCards", "noLines", "LViewCards$Lines;", true)
  | 7 => ("ViewCards", "lines", "LViewCards$Lines;", false)
  | 8 => ("ViewCards", "draft", "LViewCards$Lines;", false)
  | _ => ("ViewCards", "base", "I", false)
def tyX8 : Nat → FieldType := fun k => match k with
  | 0 => .object "ViewCards$Album"
  | 1 => .object "ViewCards$Kin"
  | 2 => .object "ViewCards$Numbers"
  | 3 => .object "ViewCards$Dating"
  | 4 => .object "ViewCards$Ground"
  | 5 => .object "ViewCards$Reader"
  | 6 => .object "ViewCards$Lines"
  | 7 => .object "ViewCards$Lines"
  | 8 => .object "ViewCards$Lines"
  | _ => .int
theorem nmX8 : ∀ a, a < 10 → ∀ b, b < 10 → a ≠ b → (TX8 a).2.1 ≠ (TX8 b).2.1 := by decide +kernel
theorem tyX8_ok : ∀ k, k < 10 → parseFieldDescriptor (TX8 k).2.2.1 = some (tyX8 k) := by decide +kernel
abbrev cX8_init : ByteArray := prog_1_method_1_code
def yX8_init : MethodName := ⟨RX8, "<init>", "()V"⟩
abbrev cX8_card : ByteArray := prog_1_method_2_code
def yX8_card : MethodName := ⟨RX8, "card", "(IIIIJII)I"⟩
abbrev cX8_caption : ByteArray := prog_1_method_3_code
def yX8_caption : MethodName := ⟨RX8, "caption", "(IJI)I"⟩
abbrev cX8_days : ByteArray := prog_1_method_4_code
def yX8_days : MethodName := ⟨RX8, "days", "(I)I"⟩
abbrev cX8_set : ByteArray := prog_1_method_5_code
def yX8_set : MethodName := ⟨RX8, "set", "(II)I"⟩
abbrev cX8_difference : ByteArray := prog_1_method_6_code
def yX8_difference : MethodName := ⟨RX8, "difference", "(II)I"⟩
abbrev cX8_negative : ByteArray := prog_1_method_7_code
def yX8_negative : MethodName := ⟨RX8, "negative", "(I)I"⟩
abbrev cX8_far : ByteArray := prog_1_method_8_code
def yX8_far : MethodName := ⟨RX8, "far", "(II)I"⟩
abbrev cX8_match : ByteArray := prog_1_method_9_code
def yX8_match : MethodName := ⟨RX8, "match", "(II)I"⟩
abbrev cX8_of : ByteArray := prog_1_method_10_code
def yX8_of : MethodName := ⟨RX8, "of", "(II)I"⟩
abbrev cX8_timesSeen : ByteArray := prog_1_method_11_code
def yX8_timesSeen : MethodName := ⟨RX8, "timesSeen", "(I)I"⟩
abbrev cX8_priceOf : ByteArray := prog_1_method_12_code
def yX8_priceOf : MethodName := ⟨RX8, "priceOf", "(I)I"⟩
abbrev cX8_series : ByteArray := prog_1_method_13_code
def yX8_series : MethodName := ⟨RX8, "series", "(II)I"⟩
abbrev cX8_gap : ByteArray := prog_1_method_14_code
def yX8_gap : MethodName := ⟨RX8, "gap", "(II)I"⟩
abbrev cX8_unseen : ByteArray := prog_1_method_15_code
def yX8_unseen : MethodName := ⟨RX8, "unseen", "(I)I"⟩
abbrev cX8_cardsSeen : ByteArray := prog_1_method_16_code
def yX8_cardsSeen : MethodName := ⟨RX8, "cardsSeen", "(I)I"⟩
abbrev cX8_overlap : ByteArray := prog_1_method_17_code
def yX8_overlap : MethodName := ⟨RX8, "overlap", "(III)I"⟩
abbrev cX8_cardsInBoth : ByteArray := prog_1_method_18_code
def yX8_cardsInBoth : MethodName := ⟨RX8, "cardsInBoth", "(II)I"⟩
abbrev cX8_feature : ByteArray := prog_1_method_19_code
def yX8_feature : MethodName := ⟨RX8, "feature", "(III)I"⟩
abbrev cX8_shows : ByteArray := prog_1_method_20_code
def yX8_shows : MethodName := ⟨RX8, "shows", "(III)I"⟩
abbrev cX8_back : ByteArray := prog_1_method_21_code
def yX8_back : MethodName := ⟨RX8, "back", "(III)I"⟩
abbrev cX8_later : ByteArray := prog_1_method_22_code
def yX8_later : MethodName := ⟨RX8, "later", "(II)I"⟩
abbrev cX8_span : ByteArray := prog_1_method_23_code
def yX8_span : MethodName := ⟨RX8, "span", "(III)I"⟩
abbrev cX8_quarrel : ByteArray := prog_1_method_24_code
def yX8_quarrel : MethodName := ⟨RX8, "quarrel", "()I"⟩
abbrev cX8_culprit : ByteArray := prog_1_method_25_code
def yX8_culprit : MethodName := ⟨RX8, "culprit", "()I"⟩
abbrev cX8_landmark : ByteArray := prog_1_method_26_code
def yX8_landmark : MethodName := ⟨RX8, "landmark", "(II)I"⟩
abbrev cX8_walls : ByteArray := prog_1_method_27_code
def yX8_walls : MethodName := ⟨RX8, "walls", "(J)I"⟩
abbrev cX8_view : ByteArray := prog_1_method_28_code
def yX8_view : MethodName := ⟨RX8, "view", "(II)I"⟩
abbrev cX8_unview : ByteArray := prog_1_method_29_code
def yX8_unview : MethodName := ⟨RX8, "unview", "(I)I"⟩
abbrev cX8_stood : ByteArray := prog_1_method_30_code
def yX8_stood : MethodName := ⟨RX8, "stood", "(I)J"⟩
abbrev cX8_together : ByteArray := prog_1_method_31_code
def yX8_together : MethodName := ⟨RX8, "together", "(I)I"⟩
abbrev cX8_write : ByteArray := prog_1_method_32_code
def yX8_write : MethodName := ⟨RX8, "write", "(JI)I"⟩
abbrev cX8_erase : ByteArray := prog_1_method_33_code
def yX8_erase : MethodName := ⟨RX8, "erase", "()I"⟩
abbrev cX8_fault : ByteArray := prog_1_method_34_code
def yX8_fault : MethodName := ⟨RX8, "fault", "()I"⟩
abbrev cX8_catalogue : ByteArray := prog_1_method_35_code
def yX8_catalogue : MethodName := ⟨RX8, "catalogue", "()I"⟩
abbrev cX8_breaks : ByteArray := prog_1_method_36_code
def yX8_breaks : MethodName := ⟨RX8, "breaks", "(I)I"⟩
abbrev cX8_count : ByteArray := prog_1_method_37_code
def yX8_count : MethodName := ⟨RX8, "count", "(I)I"⟩
abbrev cX8_areTwoThere : ByteArray := prog_1_method_38_code
def yX8_areTwoThere : MethodName := ⟨RX8, "areTwoThere", "(II)Z"⟩
abbrev cX8_isSpan : ByteArray := prog_1_method_39_code
def yX8_isSpan : MethodName := ⟨RX8, "isSpan", "(II)Z"⟩
abbrev cX8_isWithin : ByteArray := prog_1_method_40_code
def yX8_isWithin : MethodName := ⟨RX8, "isWithin", "(III)Z"⟩
abbrev cX8_has : ByteArray := prog_1_method_41_code
def yX8_has : MethodName := ⟨RX8, "has", "(II)Z"⟩
abbrev cX8_lowest : ByteArray := prog_1_method_42_code
def yX8_lowest : MethodName := ⟨RX8, "lowest", "(I)I"⟩
abbrev cX8_byteOf : ByteArray := prog_1_method_43_code
def yX8_byteOf : MethodName := ⟨RX8, "byteOf", "(JI)I"⟩
abbrev cX8_isLetter : ByteArray := prog_1_method_44_code
def yX8_isLetter : MethodName := ⟨RX8, "isLetter", "(I)Z"⟩
abbrev cX8_isDigit : ByteArray := prog_1_method_45_code
def yX8_isDigit : MethodName := ⟨RX8, "isDigit", "(I)Z"⟩
abbrev cX8_commonDivisor : ByteArray := prog_1_method_46_code
def yX8_commonDivisor : MethodName := ⟨RX8, "commonDivisor", "(II)I"⟩
def RX9 : String := "ViewCardsModel"
def TX9 : u_T := fun k => match k with
  | 0 => ("ViewCardsModel", "cards", "I", false)
  | 1 => ("ViewCardsModel", "listOf", "[I", true)
  | 2 => ("ViewCardsModel", "publisher", "[I", true)
  | 3 => ("ViewCardsModel", "numberOf", "[I", true)
  | 4 => ("ViewCardsModel", "backOf", "[I", true)
  | 5 => ("ViewCardsModel", "picture", "[J", true)
  | 6 => ("ViewCardsModel", "sky", "[I", true)
  | 7 => ("ViewCardsModel", "posted", "[I", true)
  | 8 => ("ViewCardsModel", "toldOn", "[I", true)
  | 9 => ("ViewCardsModel", "letters", "[I", true)
  | 10 => ("ViewCardsModel", "caption", "[I", true)
  | 11 => ("ViewCardsModel", "day", "I", false)
  | 12 => ("ViewCardsModel", "slack", "I", false)
  | 13 => ("ViewCardsModel", "asOf", "I", false)
  | 14 => ("ViewCardsModel", "base", "I", false)
  | 15 => ("ViewCardsModel", "unlike", "[I", true)
  | 16 => ("ViewCardsModel", "negatives", "[I", true)
  | 17 => ("ViewCardsModel", "ones", "[I", true)
  | 18 => ("ViewCardsModel", "row", "[I", true)
  | 19 => ("ViewCardsModel", "rowNext", "[I", true)
  | 20 => ("ViewCardsModel", "featureFrom", "[I", true)
  | 21 => ("ViewCardsModel", "featureTo", "[I", true)
  | 22 => ("ViewCardsModel", "shown", "[I", true)
  | 23 => ("ViewCardsModel", "backFrom", "[I", true)
  | 24 => ("ViewCardsModel", "backTo", "[I", true)
  | 25 => ("ViewCardsModel", "laters", "I", false)
  | 26 => ("ViewCardsModel", "laterA", "[I", true)
  | 27 => ("ViewCardsModel", "laterB", "[I", true)
  | 28 => ("ViewCardsModel", "takenFrom", "[I", true)
  | 29 => ("ViewCardsModel", "takenTo", "[I", true)
  | 30 => ("ViewCardsModel", "outFrom", "[I", true)
  | 31 => ("ViewCardsModel", "outTo", "[I", true)
  | 32 => ("ViewCardsModel", "isNarrowed", "Z", false)
  | 33 => ("ViewCardsModel", "landmarks", "[I", true)
  | 34 => ("ViewCardsModel", "walls", "J", false)
  | 35 => ("ViewCardsModel", "views", "[I", true)
  | 36 => ("ViewCardsModel", "view", "[I", true)
  | 37 => ("ViewCardsModel", "bytes", "I", false)
  | 38 => ("ViewCardsModel", "text", "[I", true)
  | 39 => ("ViewCardsModel", "position", "I", false)
  | 40 => ("ViewCardsModel", "tokenAt", "I", false)
  | 41 => ("ViewCardsModel", "token", "J", false)
  | 42 => ("ViewCardsModel", "digits", "I", false)
  | 43 => ("ViewCardsModel", "number", "I", false)
  | 44 => ("ViewCardsModel", "faultAt", "I", false)
  | 45 => ("ViewCardsModel", "readMany", "I", false)
  | 46 => ("ViewCardsModel", "read", "[I", true)
  | 47 => ("ViewCardsModel", "lines", "I", false)
  | _ => ("ViewCardsModel", "line", "[I", true)
def tyX9 : Nat → FieldType := fun k => match k with
  | 0 => .int
  | 1 => .array .int
  | 2 => .array .int
  | 3 => .array .int
  | 4 => .array .int
  | 5 => .array .long
  | 6 => .array .int
  | 7 => .array .int
  | 8 => .array .int
  | 9 => .array .int
  | 10 => .array .int
  | 11 => .int
  | 12 => .int
  | 13 => .int
  | 14 => .int
  | 15 => .array .int
  | 16 => .array .int
  | 17 => .array .int
  | 18 => .array .int
  | 19 => .array .int
  | 20 => .array .int
  | 21 => .array .int
  | 22 => .array .int
  | 23 => .array .int
  | 24 => .array .int
  | 25 => .int
  | 26 => .array .int
  | 27 => .array .int
  | 28 => .array .int
  | 29 => .array .int
  | 30 => .array .int
  | 31 => .array .int
  | 32 => .boolean
  | 33 => .array .int
  | 34 => .long
  | 35 => .array .int
  | 36 => .array .int
  | 37 => .int
  | 38 => .array .int
  | 39 => .int
  | 40 => .int
  | 41 => .long
  | 42 => .int
  | 43 => .int
  | 44 => .int
  | 45 => .int
  | 46 => .array .int
  | 47 => .int
  | _ => .array .int
theorem nmX9 : ∀ a, a < 49 → ∀ b, b < 49 → a ≠ b → (TX9 a).2.1 ≠ (TX9 b).2.1 := by decide +kernel
theorem tyX9_ok : ∀ k, k < 49 → parseFieldDescriptor (TX9 k).2.2.1 = some (tyX9 k) := by decide +kernel
abbrev cX9_init : ByteArray := prog_11_method_1_code
def yX9_init : MethodName := ⟨RX9, "<init>", "()V"⟩
abbrev cX9_in : ByteArray := prog_11_method_2_code
def yX9_in : MethodName := ⟨RX9, "in", "(III)Z"⟩
abbrev cX9_thereMany : ByteArray := prog_11_method_3_code
def yX9_thereMany : MethodName := ⟨RX9, "thereMany", "()I"⟩
abbrev cX9_isThere : ByteArray := prog_11_method_4_code
def yX9_isThere : MethodName := ⟨RX9, "isThere", "(I)Z"⟩
abbrev cX9_isPublisher : ByteArray := prog_11_method_5_code
def yX9_isPublisher : MethodName := ⟨RX9, "isPublisher", "(I)Z"⟩
abbrev cX9_isDay : ByteArray := prog_11_method_6_code
def yX9_isDay : MethodName := ⟨RX9, "isDay", "(I)Z"⟩
abbrev cX9_card : ByteArray := prog_11_method_7_code
def yX9_card : MethodName := ⟨RX9, "card", "(IIIIJII)I"⟩
abbrev cX9_caption : ByteArray := prog_11_method_8_code
def yX9_caption : MethodName := ⟨RX9, "caption", "(IJI)I"⟩
abbrev cX9_days : ByteArray := prog_11_method_9_code
def yX9_days : MethodName := ⟨RX9, "days", "(I)I"⟩
abbrev cX9_set : ByteArray := prog_11_method_10_code
def yX9_set : MethodName := ⟨RX9, "set", "(II)I"⟩
abbrev cX9_bit : ByteArray := prog_11_method_11_code
def yX9_bit : MethodName := ⟨RX9, "bit", "(JII)I"⟩
abbrev cX9_unlikeBy : ByteArray := prog_11_method_12_code
def yX9_unlikeBy : MethodName := ⟨RX9, "unlikeBy", "(IIII)I"⟩
abbrev cX9_unlikeOf : ByteArray := prog_11_method_13_code
def yX9_unlikeOf : MethodName := ⟨RX9, "unlikeOf", "(II)I"⟩
abbrev cX9_difference : ByteArray := prog_11_method_14_code
def yX9_difference : MethodName := ⟨RX9, "difference", "(II)I"⟩
abbrev cX9_isLike : ByteArray := prog_11_method_15_code
def yX9_isLike : MethodName := ⟨RX9, "isLike", "(II)Z"⟩
abbrev cX9_farOf : ByteArray := prog_11_method_16_code
def yX9_farOf : MethodName := ⟨RX9, "farOf", "(II)I"⟩
abbrev cX9_far : ByteArray := prog_11_method_17_code
def yX9_far : MethodName := ⟨RX9, "far", "(II)I"⟩
abbrev cX9_isMatch : ByteArray := prog_11_method_18_code
def yX9_isMatch : MethodName := ⟨RX9, "isMatch", "(II)Z"⟩
abbrev cX9_findUnlike : ByteArray := prog_11_method_19_code
def yX9_findUnlike : MethodName := ⟨RX9, "findUnlike", "()V"⟩
abbrev cX9_findChains : ByteArray := prog_11_method_20_code
def yX9_findChains : MethodName := ⟨RX9, "findChains", "([IZI)V"⟩
abbrev cX9_match : ByteArray := prog_11_method_21_code
def yX9_match : MethodName := ⟨RX9, "match", "(II)I"⟩
abbrev cX9_negative : ByteArray := prog_11_method_22_code
def yX9_negative : MethodName := ⟨RX9, "negative", "(I)I"⟩
abbrev cX9_bits : ByteArray := prog_11_method_23_code
def yX9_bits : MethodName := ⟨RX9, "bits", "(I)I"⟩
abbrev cX9_listsOf : ByteArray := prog_11_method_24_code
def yX9_listsOf : MethodName := ⟨RX9, "listsOf", "(I)I"⟩
abbrev cX9_rivalsOf : ByteArray := prog_11_method_25_code
def yX9_rivalsOf : MethodName := ⟨RX9, "rivalsOf", "(I)I"⟩
abbrev cX9_priceOf : ByteArray := prog_11_method_26_code
def yX9_priceOf : MethodName := ⟨RX9, "priceOf", "(I)I"⟩
abbrev cX9_of : ByteArray := prog_11_method_27_code
def yX9_of : MethodName := ⟨RX9, "of", "(II)I"⟩
abbrev cX9_hasNumber : ByteArray := prog_11_method_28_code
def yX9_hasNumber : MethodName := ⟨RX9, "hasNumber", "(II)Z"⟩
abbrev cX9_endOf : ByteArray := prog_11_method_29_code
def yX9_endOf : MethodName := ⟨RX9, "endOf", "(II)I"⟩
abbrev cX9_isMissing : ByteArray := prog_11_method_30_code
def yX9_isMissing : MethodName := ⟨RX9, "isMissing", "(II)Z"⟩
abbrev cX9_series : ByteArray := prog_11_method_31_code
def yX9_series : MethodName := ⟨RX9, "series", "(II)I"⟩
abbrev cX9_gap : ByteArray := prog_11_method_32_code
def yX9_gap : MethodName := ⟨RX9, "gap", "(II)I"⟩
abbrev cX9_common : ByteArray := prog_11_method_33_code
def yX9_common : MethodName := ⟨RX9, "common", "(II)I"⟩
abbrev cX9_lowest : ByteArray := prog_11_method_34_code
def yX9_lowest : MethodName := ⟨RX9, "lowest", "(IIZ)I"⟩
abbrev cX9_unseen : ByteArray := prog_11_method_35_code
def yX9_unseen : MethodName := ⟨RX9, "unseen", "(I)I"⟩
abbrev cX9_overlap : ByteArray := prog_11_method_36_code
def yX9_overlap : MethodName := ⟨RX9, "overlap", "(III)I"⟩
abbrev cX9_feature : ByteArray := prog_11_method_37_code
def yX9_feature : MethodName := ⟨RX9, "feature", "(III)I"⟩
abbrev cX9_shows : ByteArray := prog_11_method_38_code
def yX9_shows : MethodName := ⟨RX9, "shows", "(III)I"⟩
abbrev cX9_back : ByteArray := prog_11_method_39_code
def yX9_back : MethodName := ⟨RX9, "back", "(III)I"⟩
abbrev cX9_later : ByteArray := prog_11_method_40_code
def yX9_later : MethodName := ⟨RX9, "later", "(II)I"⟩
abbrev cX9_takenIn : ByteArray := prog_11_method_41_code
def yX9_takenIn : MethodName := ⟨RX9, "takenIn", "(III)V"⟩
abbrev cX9_outIn : ByteArray := prog_11_method_42_code
def yX9_outIn : MethodName := ⟨RX9, "outIn", "(III)V"⟩
abbrev cX9_isOf : ByteArray := prog_11_method_43_code
def yX9_isOf : MethodName := ⟨RX9, "isOf", "(II)Z"⟩
abbrev cX9_narrow : ByteArray := prog_11_method_44_code
def yX9_narrow : MethodName := ⟨RX9, "narrow", "(IZ)V"⟩
abbrev cX9_isEmpty : ByteArray := prog_11_method_45_code
def yX9_isEmpty : MethodName := ⟨RX9, "isEmpty", "(I)Z"⟩
abbrev cX9_areSpans : ByteArray := prog_11_method_46_code
def yX9_areSpans : MethodName := ⟨RX9, "areSpans", "(IZ)Z"⟩
abbrev cX9_span : ByteArray := prog_11_method_47_code
def yX9_span : MethodName := ⟨RX9, "span", "(III)I"⟩
abbrev cX9_quarrel : ByteArray := prog_11_method_48_code
def yX9_quarrel : MethodName := ⟨RX9, "quarrel", "()I"⟩
abbrev cX9_culprit : ByteArray := prog_11_method_49_code
def yX9_culprit : MethodName := ⟨RX9, "culprit", "()I"⟩
abbrev cX9_landmark : ByteArray := prog_11_method_50_code
def yX9_landmark : MethodName := ⟨RX9, "landmark", "(II)I"⟩
abbrev cX9_walls : ByteArray := prog_11_method_51_code
def yX9_walls : MethodName := ⟨RX9, "walls", "(J)I"⟩
abbrev cX9_view : ByteArray := prog_11_method_52_code
def yX9_view : MethodName := ⟨RX9, "view", "(II)I"⟩
abbrev cX9_unview : ByteArray := prog_11_method_53_code
def yX9_unview : MethodName := ⟨RX9, "unview", "(I)I"⟩
abbrev cX9_isWall : ByteArray := prog_11_method_54_code
def yX9_isWall : MethodName := ⟨RX9, "isWall", "(I)Z"⟩
abbrev cX9_isSeen : ByteArray := prog_11_method_55_code
def yX9_isSeen : MethodName := ⟨RX9, "isSeen", "(II)Z"⟩
abbrev cX9_isOrdered : ByteArray := prog_11_method_56_code
def yX9_isOrdered : MethodName := ⟨RX9, "isOrdered", "(III)Z"⟩
abbrev cX9_mayStand : ByteArray := prog_11_method_57_code
def yX9_mayStand : MethodName := ⟨RX9, "mayStand", "(II)Z"⟩
abbrev cX9_stoodOf : ByteArray := prog_11_method_58_code
def yX9_stoodOf : MethodName := ⟨RX9, "stoodOf", "(I)J"⟩
abbrev cX9_stood : ByteArray := prog_11_method_59_code
def yX9_stood : MethodName := ⟨RX9, "stood", "(I)J"⟩
abbrev cX9_together : ByteArray := prog_11_method_60_code
def yX9_together : MethodName := ⟨RX9, "together", "(I)I"⟩
abbrev cX9_write : ByteArray := prog_11_method_61_code
def yX9_write : MethodName := ⟨RX9, "write", "(JI)I"⟩
abbrev cX9_erase : ByteArray := prog_11_method_62_code
def yX9_erase : MethodName := ⟨RX9, "erase", "()I"⟩
abbrev cX9_nextToken : ByteArray := prog_11_method_63_code
def yX9_nextToken : MethodName := ⟨RX9, "nextToken", "()V"⟩
abbrev cX9_fails : ByteArray := prog_11_method_64_code
def yX9_fails : MethodName := ⟨RX9, "fails", "()Z"⟩
abbrev cX9_isWord : ByteArray := prog_11_method_65_code
def yX9_isWord : MethodName := ⟨RX9, "isWord", "(J)Z"⟩
abbrev cX9_isNumber : ByteArray := prog_11_method_66_code
def yX9_isNumber : MethodName := ⟨RX9, "isNumber", "(III)Z"⟩
abbrev cX9_isLine : ByteArray := prog_11_method_67_code
def yX9_isLine : MethodName := ⟨RX9, "isLine", "(I)Z"⟩
abbrev cX9_isRead : ByteArray := prog_11_method_68_code
def yX9_isRead : MethodName := ⟨RX9, "isRead", "()Z"⟩
abbrev cX9_fault : ByteArray := prog_11_method_69_code
def yX9_fault : MethodName := ⟨RX9, "fault", "()I"⟩
abbrev cX9_catalogue : ByteArray := prog_11_method_70_code
def yX9_catalogue : MethodName := ⟨RX9, "catalogue", "()I"⟩
abbrev cX9_breaks : ByteArray := prog_11_method_71_code
def yX9_breaks : MethodName := ⟨RX9, "breaks", "(I)I"⟩
abbrev cX9_count : ByteArray := prog_11_method_72_code
def yX9_count : MethodName := ⟨RX9, "count", "(I)I"⟩
def RJ6 : String := "java/lang/Integer"
def TJ6 : u_T := fun k => match k with
  | _ => ("", "", "", false)
def tyJ6 : Nat → FieldType := fun k => match k with
  | _ => .int
theorem nmJ6 : ∀ a, a < 0 → ∀ b, b < 0 → a ≠ b → (TJ6 a).2.1 ≠ (TJ6 b).2.1 := by decide +kernel
theorem tyJ6_ok : ∀ k, k < 0 → parseFieldDescriptor (TJ6 k).2.2.1 = some (tyJ6 k) := by decide +kernel
abbrev cJ6_bitCount_0f7a4 : ByteArray := prog_12_method_49_code
def yJ6_bitCount_0f7a4 : MethodName := ⟨RJ6, "bitCount", "(I)I"⟩
def RJ13 : String := "java/lang/Long"
def TJ13 : u_T := fun k => match k with
  | _ => ("", "", "", false)
def tyJ13 : Nat → FieldType := fun k => match k with
  | _ => .int
theorem nmJ13 : ∀ a, a < 0 → ∀ b, b < 0 → a ≠ b → (TJ13 a).2.1 ≠ (TJ13 b).2.1 := by decide +kernel
theorem tyJ13_ok : ∀ k, k < 0 → parseFieldDescriptor (TJ13 k).2.2.1 = some (tyJ13 k) := by decide +kernel
abbrev cJ13_bitCount_95d88 : ByteArray := prog_13_method_50_code
def yJ13_bitCount_95d88 : MethodName := ⟨RJ13, "bitCount", "(J)I"⟩
def RJ9 : String := "java/lang/Math"
def TJ9 : u_T := fun k => match k with
  | _ => ("", "", "", false)
def tyJ9 : Nat → FieldType := fun k => match k with
  | _ => .int
theorem nmJ9 : ∀ a, a < 0 → ∀ b, b < 0 → a ≠ b → (TJ9 a).2.1 ≠ (TJ9 b).2.1 := by decide +kernel
theorem tyJ9_ok : ∀ k, k < 0 → parseFieldDescriptor (TJ9 k).2.2.1 = some (tyJ9 k) := by decide +kernel
abbrev cJ9_abs_0f7a4 : ByteArray := prog_14_method_59_code
def yJ9_abs_0f7a4 : MethodName := ⟨RJ9, "abs", "(I)I"⟩
abbrev cJ9_max_7cf53 : ByteArray := prog_14_method_65_code
def yJ9_max_7cf53 : MethodName := ⟨RJ9, "max", "(II)I"⟩
abbrev cJ9_min_7cf53 : ByteArray := prog_14_method_69_code
def yJ9_min_7cf53 : MethodName := ⟨RJ9, "min", "(II)I"⟩
def RJ0 : String := "java/lang/String"
def TJ0 : u_T := fun k => match k with
  | _ => ("", "", "", false)
def tyJ0 : Nat → FieldType := fun k => match k with
  | _ => .int
theorem nmJ0 : ∀ a, a < 0 → ∀ b, b < 0 → a ≠ b → (TJ0 a).2.1 ≠ (TJ0 b).2.1 := by decide +kernel
theorem tyJ0_ok : ∀ k, k < 0 → parseFieldDescriptor (TJ0 k).2.2.1 = some (tyJ0 k) := by decide +kernel
abbrev cJ0_length_8abf5 : ByteArray := prog_15_method_54_code
def yJ0_length_8abf5 : MethodName := ⟨RJ0, "length", "()I"⟩
abbrev cJ0_charAt_5068e : ByteArray := prog_15_method_56_code
def yJ0_charAt_5068e : MethodName := ⟨RJ0, "charAt", "(I)C"⟩
abbrev cJ0_coder_7d493 : ByteArray := prog_15_method_152_code
def yJ0_coder_7d493 : MethodName := ⟨RJ0, "coder", "()B"⟩
abbrev cJ0_isLatin1_aae02 : ByteArray := prog_15_method_154_code
def yJ0_isLatin1_aae02 : MethodName := ⟨RJ0, "isLatin1", "()Z"⟩
abbrev cJ0_checkIndex_df160 : ByteArray := prog_15_method_155_code
def yJ0_checkIndex_df160 : MethodName := ⟨RJ0, "checkIndex", "(II)V"⟩
def RJ1 : String := "java/lang/StringLatin1"
def TJ1 : u_T := fun k => match k with
  | _ => ("", "", "", false)
def tyJ1 : Nat → FieldType := fun k => match k with
  | _ => .int
theorem nmJ1 : ∀ a, a < 0 → ∀ b, b < 0 → a ≠ b → (TJ1 a).2.1 ≠ (TJ1 b).2.1 := by decide +kernel
theorem tyJ1_ok : ∀ k, k < 0 → parseFieldDescriptor (TJ1 k).2.2.1 = some (tyJ1 k) := by decide +kernel
abbrev cJ1_charAt_3b067 : ByteArray := prog_16_method_2_code
def yJ1_charAt_3b067 : MethodName := ⟨RJ1, "charAt", "([BI)C"⟩
def RJ2 : String := "java/lang/StringUTF16"
def TJ2 : u_T := fun k => match k with
  | _ => ("", "", "", false)
def tyJ2 : Nat → FieldType := fun k => match k with
  | _ => .int
theorem nmJ2 : ∀ a, a < 0 → ∀ b, b < 0 → a ≠ b → (TJ2 a).2.1 ≠ (TJ2 b).2.1 := by decide +kernel
theorem tyJ2_ok : ∀ k, k < 0 → parseFieldDescriptor (TJ2 k).2.2.1 = some (tyJ2 k) := by decide +kernel
abbrev cJ2_getChar_3b067 : ByteArray := prog_17_method_5_code
def yJ2_getChar_3b067 : MethodName := ⟨RJ2, "getChar", "([BI)C"⟩
abbrev cJ2_length_9d52b : ByteArray := prog_17_method_6_code
def yJ2_length_9d52b : MethodName := ⟨RJ2, "length", "([B)I"⟩
abbrev cJ2_charAt_3b067 : ByteArray := prog_17_method_83_code
def yJ2_charAt_3b067 : MethodName := ⟨RJ2, "charAt", "([BI)C"⟩
abbrev cJ2_checkIndex_2214a : ByteArray := prog_17_method_91_code
def yJ2_checkIndex_2214a : MethodName := ⟨RJ2, "checkIndex", "(I[B)V"⟩
def RJ3 : String := "jdk/internal/util/Preconditions"
def TJ3 : u_T := fun k => match k with
  | _ => ("", "", "", false)
def tyJ3 : Nat → FieldType := fun k => match k with
  | _ => .int
theorem nmJ3 : ∀ a, a < 0 → ∀ b, b < 0 → a ≠ b → (TJ3 a).2.1 ≠ (TJ3 b).2.1 := by decide +kernel
theorem tyJ3_ok : ∀ k, k < 0 → parseFieldDescriptor (TJ3 k).2.2.1 = some (tyJ3 k) := by decide +kernel
abbrev cJ3_checkIndex_8e157 : ByteArray := prog_18_method_11_code
def yJ3_checkIndex_8e157 : MethodName := ⟨RJ3, "checkIndex", "(IILjava/util/function/BiFunction;)I"⟩
def RL : String := "ViewCardsLaw"
abbrev cL_law : ByteArray := code
def yL_law : MethodName := ⟨RL, "law", "([I)Z"⟩
abbrev vwCl : List vw_C := [(RX0, TX0, 13), (RX1, TX1, 13), (RX2, TX2, 4), (RX3, TX3, 5), (RX4, TX4, 7), (RX5, TX5, 5), (RX6, TX6, 5), (RX7, TX7, 3), (RX8, TX8, 10), (RX9, TX9, 49)]
end
section
/-! THE FRAME: a world is a list of cells; the cell at place k stands at the address z + k. R: what a method does from a place on, said over worlds alone. -/
def TW : List Cond := lw_tbl.filter goodWord
theorem TW_of {w : Cond} (h : w ∈ lw_tbl) (hg : goodWord w = true) : w ∈ TW := List.mem_filter.mpr ⟨h, hg⟩
theorem TW_tb (i : Nat) {w : Cond} (h : tables_1[i]? = some w) (hg : goodWord w = true) : w ∈ TW := TW_of (List.mem_append_right _ (List.mem_of_getElem? h)) hg
theorem TW_pr (i : Nat) {w : Cond} (h : (k2_sels lw_privs)[i]? = some w) (hg : goodWord w = true) : w ∈ TW := TW_of (List.mem_append_left _ (List.mem_of_getElem? h)) hg
theorem TW_good : ∀ w ∈ TW, (w.onTables && w.keeps) = true ∨ ∃ ty, w = .arrayClass ty := fun w h => good_of_word (List.mem_filter.mp h).2
/-- what stays the same all through: the launch's address of the first cell, the classes, the array classes, the Strings' places, the script -/
abbrev vG : Type := Nat × va_G × (Nat → ClassId) × (Nat → Nat) × (Nat → Nat) × Nat × Nat × (Nat → Int32)
abbrev gz (G : vG) : Nat := G.1
abbrev gD (G : vG) : va_G := G.2.1
abbrev gA (G : vG) : Nat → ClassId := G.2.2.1
abbrev gK (G : vG) : Nat → Nat := G.2.2.2.1
abbrev gV (G : vG) : Nat → Nat := G.2.2.2.2.1
abbrev gb (G : vG) : Nat := G.2.2.2.2.2.1
abbrev gL (G : vG) : Nat := G.2.2.2.2.2.2.1
abbrev gX (G : vG) : Nat → Int32 := G.2.2.2.2.2.2.2
def ad (G : vG) (k : Nat) : Nat := if k < 1000000 then gz G + k else if k < 1000100 then gK G (k - 1000000) else if k < 1000200 then gV G (k - 1000100) else gb G
theorem ad_lt {G : vG} {k : Nat} (h : k < 1000000) : ad G k = gz G + k := if_pos h
def tv (G : vG) : Value → Value := fun v => match v with
  | .ref a => .ref (ad G a)
  | .int x => .int x
  | .long x => .long x
  | .null => .null
  | .float x => .float x
  | .double x => .double x
  | .retAddr x => .retAddr x
theorem tv_cat (G : vG) (v : Value) : (tv G v).category = v.category := by cases v <;> rfl
theorem tv_cats (G : vG) (l : List Value) : ((l.map (tv G)).map fun v => v.category).sum = (l.map fun v => v.category).sum := by
  rw [List.map_map]
  congr 1
  apply List.map_congr_left
  intro v _
  exact tv_cat G v
abbrev VE : Type := (Nat × vp_A) ⊕ (Nat × List Value)
abbrev VW : Type := List VE
def tc (G : vG) (a : vp_A) : vp_A := (a.1, match a.2 with
  | .inl f => .inl f
  | .inr (.inl f) => .inr (.inl f)
  | .inr (.inr (.inl f)) => .inr (.inr (.inl f))
  | .inr (.inr (.inr (.inl f))) => .inr (.inr (.inr (.inl f)))
  | .inr (.inr (.inr (.inr f))) => .inr (.inr (.inr (.inr (fun i => (f i).map (ad G))))))
def te (G : vG) (e : VE) : va_E := match e with
  | .inl (k, a) => .inl (gA G k, tc G a)
  | .inr (c, fs) => .inr (c, fs.map (tv G))
def rw' (G : vG) (w : VW) : va_W := w.mapIdx (fun k e => (ad G k, te G e))
theorem rw_len (G : vG) (w : VW) : (rw' G w).length = w.length := by simp [rw']
theorem rw_get {G : vG} {w : VW} {k : Nat} {e : VE} (h : w[k]? = some e) : (rw' G w)[k]? = some (ad G k, te G e) := by
  simp [rw', List.getElem?_mapIdx, h]
theorem rw_inv {G : vG} {w : VW} {k : Nat} {q : Nat × va_E} (h : (rw' G w)[k]? = some q) : ∃ e, w[k]? = some e ∧ q = (ad G k, te G e) := by
  simp only [rw', List.getElem?_mapIdx] at h
  cases hw : w[k]? with
  | none => rw [hw] at h; cases h
  | some e => rw [hw] at h; exact ⟨e, rfl, (Option.some.inj h).symm⟩
theorem rw_set (G : vG) (w : VW) (k : Nat) (e : VE) : (rw' G w).set k (ad G k, te G e) = rw' G (w.set k e) := by
  apply List.ext_getElem?
  intro i
  by_cases hi : k = i
  · subst hi
    by_cases hl : k < w.length
    · rw [List.getElem?_set_self (by rw [rw_len]; exact hl), rw_get (List.getElem?_set_self hl)]
    · rw [List.getElem?_eq_none (by simp [rw_len]; omega), List.getElem?_eq_none (by simp [rw_len]; omega)]
  · rw [List.getElem?_set_ne hi]
    simp only [rw', List.getElem?_mapIdx]
    rw [List.getElem?_set_ne hi]
theorem rw_push (G : vG) (w : VW) (e : VE) : rw' G w ++ [(ad G w.length, te G e)] = rw' G (w ++ [e]) := by
  simp [rw', List.mapIdx_append]
abbrev Ar (G : vG) : Nat → Prop := fun q => gz G ≤ q
theorem rw_D {G : vG} {w : VW} (h : w.length ≤ 1000000) : va_D (Ar G) (rw' G w) := by
  have lt : ∀ {i : Nat} {p : Nat × va_E}, (rw' G w)[i]? = some p → i < 1000000 := fun hi => by
    have := (List.getElem?_eq_some_iff.mp hi).1
    rw [rw_len] at this
    omega
  refine ⟨fun i j p q hi hj hpq => ?_, fun k q hk => ?_⟩
  · have li := lt hi
    have lj := lt hj
    obtain ⟨e1, -, rfl⟩ := rw_inv hi
    obtain ⟨e2, -, rfl⟩ := rw_inv hj
    have : ad G i = ad G j := hpq
    rw [ad_lt li, ad_lt lj] at this
    omega
  · have lk := lt hk
    obtain ⟨e1, -, rfl⟩ := rw_inv hk
    show gz G ≤ ad G k
    rw [ad_lt lk]
    omega
def hpOK (G : vG) (w : VW) (H : Heap) : Prop := H.size = gz G + w.length ∧ w.length ≤ 1000000 ∧ va_P (gD G) vwCl (rw' G w) H
abbrev tyG (G : vG) : List (ClassId × FieldType) := [(gA G 0, .int), (gA G 1, .long), (gA G 2, .boolean), (gA G 3, .array .int)]
/-- the links to private members of nest mates -/
def NWl : List (String × Nat × MethodName) := [("ViewCards", 9, ⟨"ViewCards$Album", "<init>", "()V"⟩), ("ViewCards$Dating", 37, ⟨"ViewCards$Spans", "<init>", "()V"⟩), ("ViewCards", 50, ⟨"ViewCards$Reader", "<init>", "()V"⟩), ("ViewCards", 57, ⟨"ViewCards$Lines", "<init>", "()V"⟩), ("ViewCards$Kin", 78, ⟨"ViewCards", "byteOf", "(JI)I"⟩), ("ViewCards$Kin", 102, ⟨"ViewCards", "lowest", "(I)I"⟩), ("ViewCards$Kin", 106, ⟨"ViewCards", "has", "(II)Z"⟩), ("ViewCards$Album", 61, ⟨"ViewCards", "has", "(II)Z"⟩), ("ViewCards$Dating", 60, ⟨"ViewCards", "has", "(II)Z"⟩), ("ViewCards$Lines", 31, ⟨"ViewCards", "isWithin", "(III)Z"⟩), ("ViewCards$Dating", 142, ⟨"ViewCards", "isWithin", "(III)Z"⟩), ("ViewCards$Ground", 49, ⟨"ViewCards", "commonDivisor", "(II)I"⟩), ("ViewCards$Reader", 114, ⟨"ViewCards", "isLetter", "(I)Z"⟩), ("ViewCards$Reader", 101, ⟨"ViewCards", "isDigit", "(I)Z"⟩), ("ViewCards$Reader", 88, ⟨"ViewCards", "isWithin", "(III)Z"⟩)]
/-- the six texts of the reader: their places in its pool, and what they say -/
def cpS : List (Nat × String) := [(47, "of"), (57, "from"), (59, "to"), (61, "day"), (63, "back"), (34, ";")]
def lenS : List Nat := [2, 4, 2, 3, 4, 1]
def bytS : List (List Int32) := [[111, 102], [102, 114, 111, 109], [116, 111], [100, 97, 121], [98, 97, 99, 107], [59]]
/-- the class of arrays of rows -/
def AOI (U : State) : Prop := (Cond.arrayOver (.array .int)).before #[] U = true
theorem AOI.moved {u U : State} (hvm : u.vm.Alike U.vm) (h : AOI u) : AOI U := Jvm.Stand.arrayOver_alikeB hvm h
/-- what holds outside the world, and stays -/
def K9 (G : vG) (U : State) (H : Heap) : Prop :=
  va_K (gD G) vwCl (tyG G) U ∧ (∀ q ∈ NWl, va_Nw (.methodLinkNest q.1 q.2.1 q.2.2 "ViewCards") U) ∧ (∀ (i : Nat) (q : Nat × String), cpS[i]? = some q → vk_R "ViewCards$Reader" q.1 q.2 (gK G i) U) ∧
  vk_S 6 lenS bytS (gK G) (gV G) (Ar G) U H ∧ va_Z "java/lang/String" "COMPACT_STRINGS" "Z" (.int 1) (Ar G) U H ∧ va_Zq "jdk/internal/util/Preconditions" "SIOOBE_FORMATTER" "Ljava/util/function/BiFunction;" (Ar G) U H ∧
  va_X (gb G) (gL G) (gX G) U H ∧ gb G < gz G ∧ gz G ≤ H.size ∧ AOI U
theorem K9.go {G : vG} {s U : State} {H H1 : Heap} (h : K9 G s H) (hW : s.WarmedH U.vm) (hz : H.size ≤ H1.size) (hq : ∀ a : Nat, a < H.size → ¬ Ar G a → H1[a]? = H[a]?) : K9 G U H1 := by
  obtain ⟨h1, h2, h3, h4, h5, h6, h7, h8, h9, h10⟩ := h
  refine ⟨va_K.moved hW.alike h1, fun q hm => va_Nw.warmM hW (h2 q hm), fun i q hm => (h3 i q hm).warm hW, (h4.moved hW.alike).kept hq, (h5.moved hW.alike).kept hq, (h6.moved hW.alike).kept hq, (h7.moved hW.alike).kept (hq _ (Nat.lt_of_lt_of_le h8 h9) (Nat.not_le.mpr h8)), h8, Nat.le_trans h9 hz, h10.moved hW.alike⟩
theorem K9.call {G : vG} {U : State} {H : Heap} (h : K9 G U H) (g : JFrame) (mk : MethodId) (a : Array Value) : K9 G (U.calling g mk a) H := by
  obtain ⟨h1, h2, h3, h4, h5, h6, h7, h8, h9, h10⟩ := h
  have hA : U.vm.Alike (U.calling g mk a).vm := Vm.Alike.refl U.vm
  exact ⟨va_K.moved hA h1, fun q hm => va_Nw.same rfl rfl (h2 q hm), fun i q hm => vk_R.same rfl (h3 i q hm), h4.moved hA, h5.moved hA, h6.moved hA, h7.moved hA, h8, h9, h10.moved hA⟩
/-- a method's end, over worlds -/
def Qm (G : vG) (Q : Option Value → VW → Prop) : Array Value → State → Outcome → State → Prop := fun _ st oc t => (∃ (r : Option Value) (w : VW), oc = .returned (r.map (tv G)) ∧ Q r w ∧ hpOK G w t.heap) ∧ va_F (Ar G) st t
/-- a method's contract, over worlds -/
def Sp (G : vG) (l : Launch) (y : MethodName) (cc : ByteArray) (nL : Nat) (ret : Option FieldType) (d mc ms : Nat) (as : List Value) (w : VW) (Q : Option Value → VW → Prop) : Prop :=
  Met l y (.code y cc nL ret :: TW) { frames := d, cells := mc, slots := ms, locals := 40 * d } (va_Pc (as.map (tv G)) (fun U => hpOK G w U.heap ∧ K9 G U U.heap)) (Qm G Q) mc ms (Ar G)
/-- positional locals -/
def hasL (G : vG) (ls : Array Slot) (nL : Nat) (lv : List (Option Value)) : Prop := ls.size = nL ∧ lv_wf ls ∧ ∀ (i : Nat) (v : Value), lv[i]? = some (some v) → ls[i]? = some (.val (tv G v))
def posA : List Value → List (Option Value)
  | [] => []
  | v :: vs => if v.category = 2 then some v :: none :: posA vs else some v :: posA vs
/-- the machine, in a body of method y -/
def Cx (G : vG) (y : MethodName) (cc : ByteArray) (nL d mc ms : Nat) (p : Program) (R : Room) (s : State) (m : MethodId) (args : Array Value) (meth : Method) (c : Code) : Prop :=
  p.tables.exec = Jvm.exec ∧ c.code = cc ∧ c.maxLocals = nL ∧ s.vm.findClass y.cls = some m.cls ∧ (∀ w ∈ TW, w.before args s = true) ∧ K9 G s s.heap ∧ d ≤ R.frames ∧ 40 * d ≤ R.locals ∧ mc ≤ R.cells ∧ ms ≤ R.slots ∧ meth.name = y.name
def retI (r : Option Value) : Instr := match r with
  | none => .return_
  | some (.long _) => .lreturn
  | some _ => .ireturn
def retF (ret : Option FieldType) (r : Option Value) : Prop := match r with
  | none => ret = none
  | some (.long _) => ret = some .long
  | some (.int x) => ∃ ty, ret = some ty ∧ narrow ty (.int x) = .int x
  | some _ => False
/-- from this place on, the method returns, and what Q says holds then -/
def R (G : vG) (l : Launch) (y : MethodName) (cc : ByteArray) (nL : Nat) (ret : Option FieldType) (d mc ms : Nat) (Q : Option Value → VW → Prop) (pc : Nat) (lv : List (Option Value)) (st : List Value) (w : VW) (k n : Nat) : Prop :=
  ∀ (p : Program) (e : Env) (Rm : Room) (s : State) (m : MethodId) (args : Array Value) (below : List Frame) (meth : Method) (c : Code) (Qt : State → Prop), Cx G y cc nL d mc ms p Rm s m args meth c →
    (∀ (r : Option Value) (w' : VW) (H : Heap) (locs : List Loc) (k n pc : Nat) (ls : Array Slot), Q r w' → hpOK G w' H → va_S (Ar G) s.heap H locs → k ≤ mc → n ≤ ms → decode cc pc = .ok (retI r, 1) → retF ret r → W p l e Rm s m args below meth c H locs k n Qt (F0 m pc ls (r.map (tv G)).toList)) →
    ∀ (H : Heap) (locs : List Loc) (ls : Array Slot), hpOK G w H → va_S (Ar G) s.heap H locs → hasL G ls nL lv → W p l e Rm s m args below meth c H locs k n Qt (F0 m pc ls (st.map (tv G)))
theorem posA_at (G : vG) : ∀ (vs : List Value) (k i : Nat) (v : Value), (posA vs)[i]? = some (some v) → (k + i, tv G v) ∈ lv_args k (vs.map (tv G)) := by
  intro vs
  induction vs with
  | nil => intro k i v h; simp [posA] at h
  | cons a as ih =>
    intro k i v h
    unfold posA at h
    by_cases hc : a.category = 2
    · rw [if_pos hc] at h
      match i with
      | 0 =>
        have : a = v := by simpa using h
        subst this
        simp [lv_args]
      | 1 => simp at h
      | i + 2 =>
        have h2 : (posA as)[i]? = some (some v) := by simpa using h
        have h3 := ih (k + 2) i v h2
        have : k + 2 + i = k + (i + 2) := by omega
        rw [this] at h3
        simp [lv_args, tv_cat, hc]
        exact h3
    · rw [if_neg hc] at h
      match i with
      | 0 =>
        have : a = v := by simpa using h
        subst this
        simp [lv_args]
      | i + 1 =>
        have h2 : (posA as)[i]? = some (some v) := by simpa using h
        have h3 := ih (k + 1) i v h2
        have : k + 1 + i = k + (i + 1) := by omega
        rw [this] at h3
        simp [lv_args, tv_cat, hc]
        exact h3
theorem hasL_entry {G : vG} {vs : List Value} {n : Nat} (h : (lg_sl (vs.map (tv G))).length ≤ n) (r : List (Option Value)) (hr : ∀ q ∈ r, q = none) : hasL G ((lg_sl (vs.map (tv G)) ++ List.replicate (n - (lg_sl (vs.map (tv G))).length) Slot.unset).toArray) n (posA vs ++ r) := by
  have h1 := lv_entry (vs.map (tv G)) h
  refine ⟨h1.1, h1.2.1, fun i v hi => ?_⟩
  by_cases hl : i < (posA vs).length
  · rw [List.getElem?_append_left hl] at hi
    have := posA_at G vs 0 i v hi
    rw [Nat.zero_add] at this
    exact h1.2.2 _ this
  · rw [List.getElem?_append_right (by omega)] at hi
    have := hr _ (List.mem_of_getElem? hi)
    cases this
theorem Sp_of_R {G : vG} {l : Launch} {y : MethodName} {cc : ByteArray} {nL d mc ms : Nat} {ret : Option FieldType} {as : List Value} {w : VW} {Q : Option Value → VW → Prop} (lv : List (Option Value)) (r : List (Option Value)) (hlv : posA as ++ r = lv) (hr : ∀ q ∈ r, q = none) (hy : plainName y.cls = true) (hn : (lg_sl (as.map (tv G))).length ≤ nL)
    (h : R G l y cc nL ret d mc ms Q 0 lv [] w 0 0) : Sp G l y cc nL ret d mc ms as w Q := by
  subst hlv
  refine Met.ofW (cc := cc) (maxL := nL) (ret := ret) hy rfl ?_
  intro p e s m args below meth c s₁ B hml hv
  obtain ⟨rfl, hH, hK⟩ := hv
  have hx := B.exec
  have hb := B.bytes
  have hr1 := B.returns
  have hts0 := atoms_spec (ws := .code y cc nL ret :: TW) B.pre
  have hts : ∀ w ∈ TW, w.before (as.map (tv G)).toArray s = true := fun w hw => hts0 w (List.mem_cons_of_mem _ hw)
  have hown : s.vm.findClass y.cls = some m.cls := findClass_of_methodNamed B.named
  have hlocks := B.notSynchronized
  have hin : meth.name = y.name := (name_of_methodNamed B.named B.method).1
  rw [lg_entry_eq]
  refine h p e _ s m _ below meth c _ ⟨hx, hb, hml, hown, hts, hK, Nat.le_refl _, Nat.le_refl _, Nat.le_refl _, Nat.le_refl _, hin⟩ ?_ s.heap [] _ hH va_S.rf (hasL_entry hn r hr)
  intro rv w' H locs k n pc ls hQ hH' hS' hk hn' hdg hf
  refine W.widen hk hn' ?_
  match rv, hdg, hf with
  | none, hdg, hf => exact W.vret hx hb (hr1.trans hf) (fun t ht hW => ⟨⟨none, w', rfl, hQ, by rw [ht]; exact hH'⟩, hS'.F ht⟩) hS'.2.2 hdg
  | some (.long x), hdg, hf => exact W.lret hx hb (hr1.trans hf) (fun t ht hW => ⟨⟨some (.long x), w', rfl, hQ, by rw [ht]; exact hH'⟩, hS'.F ht⟩) hS'.2.2 hdg
  | some (.int x), hdg, hf =>
    obtain ⟨ty, h1, h2⟩ := hf
    exact W.zret hx hb (hr1.trans h1) h2 (fun t ht hW => ⟨⟨some (.int x), w', rfl, hQ, by rw [ht]; exact hH'⟩, hS'.F ht⟩) hS'.2.2 hdg
end
section
section RULES
variable {G : vG} {l : Launch} {y : MethodName} {cc : ByteArray} {nL : Nat} {ret : Option FieldType} {d mc ms : Nat} {Q : Option Value → VW → Prop} {pc : Nat} {lv : List (Option Value)} {st : List Value} {w : VW} {k n : Nat}
theorem R_iadd {a b : Int32} (hdg : decode cc pc = .ok (.iadd, 1)) (kk : R G l y cc nL ret d mc ms Q (pc + 1) lv (.int (a + b) :: st) w k n) : R G l y cc nL ret d mc ms Q pc lv (.int b :: .int a :: st) w k n := by
  intro p e Rm s m args below meth c Qt C hret H locs ls hH hS hl
  exact lv_iadd C.1 C.2.1 hdg (kk p e Rm s m args below meth c Qt C hret H locs ls hH hS hl)
theorem R_isub {a b : Int32} (hdg : decode cc pc = .ok (.isub, 1)) (kk : R G l y cc nL ret d mc ms Q (pc + 1) lv (.int (a - b) :: st) w k n) : R G l y cc nL ret d mc ms Q pc lv (.int b :: .int a :: st) w k n := by
  intro p e Rm s m args below meth c Qt C hret H locs ls hH hS hl
  exact lv_isub C.1 C.2.1 hdg (kk p e Rm s m args below meth c Qt C hret H locs ls hH hS hl)
theorem R_imul {a b : Int32} (hdg : decode cc pc = .ok (.imul, 1)) (kk : R G l y cc nL ret d mc ms Q (pc + 1) lv (.int (a * b) :: st) w k n) : R G l y cc nL ret d mc ms Q pc lv (.int b :: .int a :: st) w k n := by
  intro p e Rm s m args below meth c Qt C hret H locs ls hH hS hl
  exact lv_imul C.1 C.2.1 hdg (kk p e Rm s m args below meth c Qt C hret H locs ls hH hS hl)
theorem R_iand {a b : Int32} (hdg : decode cc pc = .ok (.iand, 1)) (kk : R G l y cc nL ret d mc ms Q (pc + 1) lv (.int (a &&& b) :: st) w k n) : R G l y cc nL ret d mc ms Q pc lv (.int b :: .int a :: st) w k n := by
  intro p e Rm s m args below meth c Qt C hret H locs ls hH hS hl
  exact lv_iand C.1 C.2.1 hdg (kk p e Rm s m args below meth c Qt C hret H locs ls hH hS hl)
theorem R_ior {a b : Int32} (hdg : decode cc pc = .ok (.ior, 1)) (kk : R G l y cc nL ret d mc ms Q (pc + 1) lv (.int (a ||| b) :: st) w k n) : R G l y cc nL ret d mc ms Q pc lv (.int b :: .int a :: st) w k n := by
  intro p e Rm s m args below meth c Qt C hret H locs ls hH hS hl
  exact lv_ior C.1 C.2.1 hdg (kk p e Rm s m args below meth c Qt C hret H locs ls hH hS hl)
theorem R_ixor {a b : Int32} (hdg : decode cc pc = .ok (.ixor, 1)) (kk : R G l y cc nL ret d mc ms Q (pc + 1) lv (.int (a ^^^ b) :: st) w k n) : R G l y cc nL ret d mc ms Q pc lv (.int b :: .int a :: st) w k n := by
  intro p e Rm s m args below meth c Qt C hret H locs ls hH hS hl
  exact lv_ixor C.1 C.2.1 hdg (kk p e Rm s m args below meth c Qt C hret H locs ls hH hS hl)
theorem R_idiv {a b : Int32} (hdg : decode cc pc = .ok (.idiv, 1)) (hne : ¬ b = 0) (kk : R G l y cc nL ret d mc ms Q (pc + 1) lv (.int (a / b) :: st) w k n) : R G l y cc nL ret d mc ms Q pc lv (.int b :: .int a :: st) w k n := by
  intro p e Rm s m args below meth c Qt C hret H locs ls hH hS hl
  exact lv_idiv C.1 C.2.1 hdg hne (kk p e Rm s m args below meth c Qt C hret H locs ls hH hS hl)
theorem R_irem {a b : Int32} (hdg : decode cc pc = .ok (.irem, 1)) (hne : ¬ b = 0) (kk : R G l y cc nL ret d mc ms Q (pc + 1) lv (.int (a - a / b * b) :: st) w k n) : R G l y cc nL ret d mc ms Q pc lv (.int b :: .int a :: st) w k n := by
  intro p e Rm s m args below meth c Qt C hret H locs ls hH hS hl
  exact lv_irem C.1 C.2.1 hdg hne (kk p e Rm s m args below meth c Qt C hret H locs ls hH hS hl)
theorem R_ishl {a b : Int32} (hdg : decode cc pc = .ok (.ishl, 1)) (kk : R G l y cc nL ret d mc ms Q (pc + 1) lv (.int (a <<< (b &&& 31)) :: st) w k n) : R G l y cc nL ret d mc ms Q pc lv (.int b :: .int a :: st) w k n := by
  intro p e Rm s m args below meth c Qt C hret H locs ls hH hS hl
  exact lv_ishl C.1 C.2.1 hdg (kk p e Rm s m args below meth c Qt C hret H locs ls hH hS hl)
theorem R_ishr {a b : Int32} (hdg : decode cc pc = .ok (.ishr, 1)) (kk : R G l y cc nL ret d mc ms Q (pc + 1) lv (.int (a >>> (b &&& 31)) :: st) w k n) : R G l y cc nL ret d mc ms Q pc lv (.int b :: .int a :: st) w k n := by
  intro p e Rm s m args below meth c Qt C hret H locs ls hH hS hl
  exact lv_ishr C.1 C.2.1 hdg (kk p e Rm s m args below meth c Qt C hret H locs ls hH hS hl)
theorem R_iushr {a b : Int32} (hdg : decode cc pc = .ok (.iushr, 1)) (kk : R G l y cc nL ret d mc ms Q (pc + 1) lv (.int ((a.toUInt32 >>> (b.toUInt32 &&& Int32.toUInt32 31)).toInt32) :: st) w k n) : R G l y cc nL ret d mc ms Q pc lv (.int b :: .int a :: st) w k n := by
  intro p e Rm s m args below meth c Qt C hret H locs ls hH hS hl
  exact lv_iushr C.1 C.2.1 hdg rfl (kk p e Rm s m args below meth c Qt C hret H locs ls hH hS hl)
theorem R_ineg {a : Int32} (hdg : decode cc pc = .ok (.ineg, 1)) (kk : R G l y cc nL ret d mc ms Q (pc + 1) lv (.int (-a) :: st) w k n) : R G l y cc nL ret d mc ms Q pc lv (.int a :: st) w k n := by
  intro p e Rm s m args below meth c Qt C hret H locs ls hH hS hl
  exact lv_ineg C.1 C.2.1 hdg (kk p e Rm s m args below meth c Qt C hret H locs ls hH hS hl)
theorem R_ladd {a b : Int64} (hdg : decode cc pc = .ok (.ladd, 1)) (kk : R G l y cc nL ret d mc ms Q (pc + 1) lv (.long (a + b) :: st) w k n) : R G l y cc nL ret d mc ms Q pc lv (.long b :: .long a :: st) w k n := by
  intro p e Rm s m args below meth c Qt C hret H locs ls hH hS hl
  exact lv_ladd C.1 C.2.1 hdg (kk p e Rm s m args below meth c Qt C hret H locs ls hH hS hl)
theorem R_lsub {a b : Int64} (hdg : decode cc pc = .ok (.lsub, 1)) (kk : R G l y cc nL ret d mc ms Q (pc + 1) lv (.long (a - b) :: st) w k n) : R G l y cc nL ret d mc ms Q pc lv (.long b :: .long a :: st) w k n := by
  intro p e Rm s m args below meth c Qt C hret H locs ls hH hS hl
  exact lv_lsub C.1 C.2.1 hdg (kk p e Rm s m args below meth c Qt C hret H locs ls hH hS hl)
theorem R_lmul {a b : Int64} (hdg : decode cc pc = .ok (.lmul, 1)) (kk : R G l y cc nL ret d mc ms Q (pc + 1) lv (.long (a * b) :: st) w k n) : R G l y cc nL ret d mc ms Q pc lv (.long b :: .long a :: st) w k n := by
  intro p e Rm s m args below meth c Qt C hret H locs ls hH hS hl
  exact lv_lmul C.1 C.2.1 hdg (kk p e Rm s m args below meth c Qt C hret H locs ls hH hS hl)
theorem R_land {a b : Int64} (hdg : decode cc pc = .ok (.land, 1)) (kk : R G l y cc nL ret d mc ms Q (pc + 1) lv (.long (a &&& b) :: st) w k n) : R G l y cc nL ret d mc ms Q pc lv (.long b :: .long a :: st) w k n := by
  intro p e Rm s m args below meth c Qt C hret H locs ls hH hS hl
  exact lv_land C.1 C.2.1 hdg (kk p e Rm s m args below meth c Qt C hret H locs ls hH hS hl)
theorem R_lor {a b : Int64} (hdg : decode cc pc = .ok (.lor, 1)) (kk : R G l y cc nL ret d mc ms Q (pc + 1) lv (.long (a ||| b) :: st) w k n) : R G l y cc nL ret d mc ms Q pc lv (.long b :: .long a :: st) w k n := by
  intro p e Rm s m args below meth c Qt C hret H locs ls hH hS hl
  exact lv_lor C.1 C.2.1 hdg (kk p e Rm s m args below meth c Qt C hret H locs ls hH hS hl)
theorem R_lxor {a b : Int64} (hdg : decode cc pc = .ok (.lxor, 1)) (kk : R G l y cc nL ret d mc ms Q (pc + 1) lv (.long (a ^^^ b) :: st) w k n) : R G l y cc nL ret d mc ms Q pc lv (.long b :: .long a :: st) w k n := by
  intro p e Rm s m args below meth c Qt C hret H locs ls hH hS hl
  exact lv_lxor C.1 C.2.1 hdg (kk p e Rm s m args below meth c Qt C hret H locs ls hH hS hl)
theorem R_lcmp {a b : Int64} (hdg : decode cc pc = .ok (.lcmp, 1)) (kk : R G l y cc nL ret d mc ms Q (pc + 1) lv (.int (lg_cmp a b) :: st) w k n) : R G l y cc nL ret d mc ms Q pc lv (.long b :: .long a :: st) w k n := by
  intro p e Rm s m args below meth c Qt C hret H locs ls hH hS hl
  exact W.lcmp C.1 C.2.1 hdg (kk p e Rm s m args below meth c Qt C hret H locs ls hH hS hl)
theorem R_lshl {a : Int64} {b : Int32} (hdg : decode cc pc = .ok (.lshl, 1)) (kk : R G l y cc nL ret d mc ms Q (pc + 1) lv (.long (a <<< (b.toInt64 &&& 63)) :: st) w k n) : R G l y cc nL ret d mc ms Q pc lv (.int b :: .long a :: st) w k n := by
  intro p e Rm s m args below meth c Qt C hret H locs ls hH hS hl
  exact lv_lshl C.1 C.2.1 hdg rfl (kk p e Rm s m args below meth c Qt C hret H locs ls hH hS hl)
theorem R_lshr {a : Int64} {b : Int32} (hdg : decode cc pc = .ok (.lshr, 1)) (kk : R G l y cc nL ret d mc ms Q (pc + 1) lv (.long (a >>> (b.toInt64 &&& 63)) :: st) w k n) : R G l y cc nL ret d mc ms Q pc lv (.int b :: .long a :: st) w k n := by
  intro p e Rm s m args below meth c Qt C hret H locs ls hH hS hl
  exact lv_lshr C.1 C.2.1 hdg rfl (kk p e Rm s m args below meth c Qt C hret H locs ls hH hS hl)
theorem R_lushr {a : Int64} {b : Int32} (hdg : decode cc pc = .ok (.lushr, 1)) (kk : R G l y cc nL ret d mc ms Q (pc + 1) lv (.long ((a.toUInt64 >>> (b.toInt64.toUInt64 &&& Int64.toUInt64 63)).toInt64) :: st) w k n) : R G l y cc nL ret d mc ms Q pc lv (.int b :: .long a :: st) w k n := by
  intro p e Rm s m args below meth c Qt C hret H locs ls hH hS hl
  exact lv_lushr C.1 C.2.1 hdg rfl (kk p e Rm s m args below meth c Qt C hret H locs ls hH hS hl)
theorem R_i2l {a : Int32} (hdg : decode cc pc = .ok (.i2l, 1)) (kk : R G l y cc nL ret d mc ms Q (pc + 1) lv (.long a.toInt64 :: st) w k n) : R G l y cc nL ret d mc ms Q pc lv (.int a :: st) w k n := by
  intro p e Rm s m args below meth c Qt C hret H locs ls hH hS hl
  exact lv_i2l C.1 C.2.1 hdg rfl (kk p e Rm s m args below meth c Qt C hret H locs ls hH hS hl)
theorem R_l2i {a : Int64} (hdg : decode cc pc = .ok (.l2i, 1)) (kk : R G l y cc nL ret d mc ms Q (pc + 1) lv (.int a.toInt32 :: st) w k n) : R G l y cc nL ret d mc ms Q pc lv (.long a :: st) w k n := by
  intro p e Rm s m args below meth c Qt C hret H locs ls hH hS hl
  exact lv_l2i C.1 C.2.1 hdg rfl (kk p e Rm s m args below meth c Qt C hret H locs ls hH hS hl)
theorem R_i2c {a : Int32} (hdg : decode cc pc = .ok (.i2c, 1)) (kk : R G l y cc nL ret d mc ms Q (pc + 1) lv (.int (a.toUInt32 % 65536).toInt32 :: st) w k n) : R G l y cc nL ret d mc ms Q pc lv (.int a :: st) w k n := by
  intro p e Rm s m args below meth c Qt C hret H locs ls hH hS hl
  exact lv_i2c C.1 C.2.1 hdg rfl (kk p e Rm s m args below meth c Qt C hret H locs ls hH hS hl)
theorem R_iconst {i : Int} {v : Int32} (hdg : decode cc pc = .ok (.iconst i, 1)) (hv : Int32.ofInt i = v) (kk : R G l y cc nL ret d mc ms Q (pc + 1) lv (.int v :: st) w k n) : R G l y cc nL ret d mc ms Q pc lv st w k n := by
  intro p e Rm s m args below meth c Qt C hret H locs ls hH hS hl
  exact lv_iconst C.1 C.2.1 hdg hv (kk p e Rm s m args below meth c Qt C hret H locs ls hH hS hl)
theorem R_bipush {i : Int} {v : Int32} (hdg : decode cc pc = .ok (.bipush i, 2)) (hv : (Int8.ofInt i).toInt32 = v) (kk : R G l y cc nL ret d mc ms Q (pc + 2) lv (.int v :: st) w k n) : R G l y cc nL ret d mc ms Q pc lv st w k n := by
  intro p e Rm s m args below meth c Qt C hret H locs ls hH hS hl
  exact lv_bipush C.1 C.2.1 hdg hv (kk p e Rm s m args below meth c Qt C hret H locs ls hH hS hl)
theorem R_sipush {i : Int} {v : Int32} (hdg : decode cc pc = .ok (.sipush i, 3)) (hv : (Int16.ofInt i).toInt32 = v) (kk : R G l y cc nL ret d mc ms Q (pc + 3) lv (.int v :: st) w k n) : R G l y cc nL ret d mc ms Q pc lv st w k n := by
  intro p e Rm s m args below meth c Qt C hret H locs ls hH hS hl
  exact lv_sipush C.1 C.2.1 hdg hv (kk p e Rm s m args below meth c Qt C hret H locs ls hH hS hl)
theorem R_lconst {i : Fin 2} {v : Int64} (hdg : decode cc pc = .ok (.lconst i, 1)) (hv : Int64.ofNat (i : Nat) = v) (kk : R G l y cc nL ret d mc ms Q (pc + 1) lv (.long v :: st) w k n) : R G l y cc nL ret d mc ms Q pc lv st w k n := by
  intro p e Rm s m args below meth c Qt C hret H locs ls hH hS hl
  exact lv_lconst C.1 C.2.1 hdg hv (kk p e Rm s m args below meth c Qt C hret H locs ls hH hS hl)
theorem R_dup {v : Value} (hdg : decode cc pc = .ok (.dup, 1)) (hv : v.category = 1) (kk : R G l y cc nL ret d mc ms Q (pc + 1) lv (v :: v :: st) w k n) : R G l y cc nL ret d mc ms Q pc lv (v :: st) w k n := by
  intro p e Rm s m args below meth c Qt C hret H locs ls hH hS hl
  exact lv_dup C.1 C.2.1 hdg ((tv_cat G v).trans hv) (kk p e Rm s m args below meth c Qt C hret H locs ls hH hS hl)
theorem R_pop {v : Value} (hdg : decode cc pc = .ok (.pop, 1)) (hv : v.category = 1) (kk : R G l y cc nL ret d mc ms Q (pc + 1) lv st w k n) : R G l y cc nL ret d mc ms Q pc lv (v :: st) w k n := by
  intro p e Rm s m args below meth c Qt C hret H locs ls hH hS hl
  exact lv_pop C.1 C.2.1 hdg ((tv_cat G v).trans hv) (kk p e Rm s m args below meth c Qt C hret H locs ls hH hS hl)
theorem R_dup2 {v u : Value} (hdg : decode cc pc = .ok (.dup2, 1)) (hv : v.category = 1) (hu : u.category = 1) (kk : R G l y cc nL ret d mc ms Q (pc + 1) lv (v :: u :: v :: u :: st) w k n) : R G l y cc nL ret d mc ms Q pc lv (v :: u :: st) w k n := by
  intro p e Rm s m args below meth c Qt C hret H locs ls hH hS hl
  exact lv_dup2_11 C.1 C.2.1 hdg ((tv_cat G v).trans hv) ((tv_cat G u).trans hu) (kk p e Rm s m args below meth c Qt C hret H locs ls hH hS hl)
theorem R_ifeq {a : Int32} {off : Int} (tgt : Nat) (hdg : decode cc pc = .ok (.ifCond .eq off, 3)) (ht : (pc : Int) + off = (tgt : Int)) (kt : a = 0 → R G l y cc nL ret d mc ms Q tgt lv st w k n) (kf : ¬ a = 0 → R G l y cc nL ret d mc ms Q (pc + 3) lv st w k n) : R G l y cc nL ret d mc ms Q pc lv (.int a :: st) w k n := by
  intro p e Rm s m args below meth c Qt C hret H locs ls hH hS hl
  exact lv_if_eq C.1 C.2.1 hdg ht (fun h => kt h p e Rm s m args below meth c Qt C hret H locs ls hH hS hl) (fun h => kf h p e Rm s m args below meth c Qt C hret H locs ls hH hS hl)
theorem R_iflt {a : Int32} {off : Int} (tgt : Nat) (hdg : decode cc pc = .ok (.ifCond .lt off, 3)) (ht : (pc : Int) + off = (tgt : Int)) (kt : a < 0 → R G l y cc nL ret d mc ms Q tgt lv st w k n) (kf : ¬ a < 0 → R G l y cc nL ret d mc ms Q (pc + 3) lv st w k n) : R G l y cc nL ret d mc ms Q pc lv (.int a :: st) w k n := by
  intro p e Rm s m args below meth c Qt C hret H locs ls hH hS hl
  exact lv_if_lt C.1 C.2.1 hdg ht (fun h => kt h p e Rm s m args below meth c Qt C hret H locs ls hH hS hl) (fun h => kf h p e Rm s m args below meth c Qt C hret H locs ls hH hS hl)
theorem R_ifge {a : Int32} {off : Int} (tgt : Nat) (hdg : decode cc pc = .ok (.ifCond .ge off, 3)) (ht : (pc : Int) + off = (tgt : Int)) (kt : 0 ≤ a → R G l y cc nL ret d mc ms Q tgt lv st w k n) (kf : ¬ 0 ≤ a → R G l y cc nL ret d mc ms Q (pc + 3) lv st w k n) : R G l y cc nL ret d mc ms Q pc lv (.int a :: st) w k n := by
  intro p e Rm s m args below meth c Qt C hret H locs ls hH hS hl
  exact lv_if_ge C.1 C.2.1 hdg ht (fun h => kt h p e Rm s m args below meth c Qt C hret H locs ls hH hS hl) (fun h => kf h p e Rm s m args below meth c Qt C hret H locs ls hH hS hl)
theorem R_ifgt {a : Int32} {off : Int} (tgt : Nat) (hdg : decode cc pc = .ok (.ifCond .gt off, 3)) (ht : (pc : Int) + off = (tgt : Int)) (kt : 0 < a → R G l y cc nL ret d mc ms Q tgt lv st w k n) (kf : ¬ 0 < a → R G l y cc nL ret d mc ms Q (pc + 3) lv st w k n) : R G l y cc nL ret d mc ms Q pc lv (.int a :: st) w k n := by
  intro p e Rm s m args below meth c Qt C hret H locs ls hH hS hl
  exact lv_if_gt C.1 C.2.1 hdg ht (fun h => kt h p e Rm s m args below meth c Qt C hret H locs ls hH hS hl) (fun h => kf h p e Rm s m args below meth c Qt C hret H locs ls hH hS hl)
theorem R_ifle {a : Int32} {off : Int} (tgt : Nat) (hdg : decode cc pc = .ok (.ifCond .le off, 3)) (ht : (pc : Int) + off = (tgt : Int)) (kt : a ≤ 0 → R G l y cc nL ret d mc ms Q tgt lv st w k n) (kf : ¬ a ≤ 0 → R G l y cc nL ret d mc ms Q (pc + 3) lv st w k n) : R G l y cc nL ret d mc ms Q pc lv (.int a :: st) w k n := by
  intro p e Rm s m args below meth c Qt C hret H locs ls hH hS hl
  exact lv_if_le C.1 C.2.1 hdg ht (fun h => kt h p e Rm s m args below meth c Qt C hret H locs ls hH hS hl) (fun h => kf h p e Rm s m args below meth c Qt C hret H locs ls hH hS hl)
theorem R_iceq {a b : Int32} {off : Int} (tgt : Nat) (hdg : decode cc pc = .ok (.if_icmp .eq off, 3)) (ht : (pc : Int) + off = (tgt : Int)) (kt : a = b → R G l y cc nL ret d mc ms Q tgt lv st w k n) (kf : ¬ a = b → R G l y cc nL ret d mc ms Q (pc + 3) lv st w k n) : R G l y cc nL ret d mc ms Q pc lv (.int b :: .int a :: st) w k n := by
  intro p e Rm s m args below meth c Qt C hret H locs ls hH hS hl
  exact lv_icmp_eq C.1 C.2.1 hdg ht (fun h => kt h p e Rm s m args below meth c Qt C hret H locs ls hH hS hl) (fun h => kf h p e Rm s m args below meth c Qt C hret H locs ls hH hS hl)
theorem R_iclt {a b : Int32} {off : Int} (tgt : Nat) (hdg : decode cc pc = .ok (.if_icmp .lt off, 3)) (ht : (pc : Int) + off = (tgt : Int)) (kt : a < b → R G l y cc nL ret d mc ms Q tgt lv st w k n) (kf : ¬ a < b → R G l y cc nL ret d mc ms Q (pc + 3) lv st w k n) : R G l y cc nL ret d mc ms Q pc lv (.int b :: .int a :: st) w k n := by
  intro p e Rm s m args below meth c Qt C hret H locs ls hH hS hl
  exact lv_icmp_lt C.1 C.2.1 hdg ht (fun h => kt h p e Rm s m args below meth c Qt C hret H locs ls hH hS hl) (fun h => kf h p e Rm s m args below meth c Qt C hret H locs ls hH hS hl)
theorem R_icge {a b : Int32} {off : Int} (tgt : Nat) (hdg : decode cc pc = .ok (.if_icmp .ge off, 3)) (ht : (pc : Int) + off = (tgt : Int)) (kt : b ≤ a → R G l y cc nL ret d mc ms Q tgt lv st w k n) (kf : ¬ b ≤ a → R G l y cc nL ret d mc ms Q (pc + 3) lv st w k n) : R G l y cc nL ret d mc ms Q pc lv (.int b :: .int a :: st) w k n := by
  intro p e Rm s m args below meth c Qt C hret H locs ls hH hS hl
  exact lv_icmp_ge C.1 C.2.1 hdg ht (fun h => kt h p e Rm s m args below meth c Qt C hret H locs ls hH hS hl) (fun h => kf h p e Rm s m args below meth c Qt C hret H locs ls hH hS hl)
theorem R_icgt {a b : Int32} {off : Int} (tgt : Nat) (hdg : decode cc pc = .ok (.if_icmp .gt off, 3)) (ht : (pc : Int) + off = (tgt : Int)) (kt : b < a → R G l y cc nL ret d mc ms Q tgt lv st w k n) (kf : ¬ b < a → R G l y cc nL ret d mc ms Q (pc + 3) lv st w k n) : R G l y cc nL ret d mc ms Q pc lv (.int b :: .int a :: st) w k n := by
  intro p e Rm s m args below meth c Qt C hret H locs ls hH hS hl
  exact lv_icmp_gt C.1 C.2.1 hdg ht (fun h => kt h p e Rm s m args below meth c Qt C hret H locs ls hH hS hl) (fun h => kf h p e Rm s m args below meth c Qt C hret H locs ls hH hS hl)
theorem R_icle {a b : Int32} {off : Int} (tgt : Nat) (hdg : decode cc pc = .ok (.if_icmp .le off, 3)) (ht : (pc : Int) + off = (tgt : Int)) (kt : a ≤ b → R G l y cc nL ret d mc ms Q tgt lv st w k n) (kf : ¬ a ≤ b → R G l y cc nL ret d mc ms Q (pc + 3) lv st w k n) : R G l y cc nL ret d mc ms Q pc lv (.int b :: .int a :: st) w k n := by
  intro p e Rm s m args below meth c Qt C hret H locs ls hH hS hl
  exact lv_icmp_le C.1 C.2.1 hdg ht (fun h => kt h p e Rm s m args below meth c Qt C hret H locs ls hH hS hl) (fun h => kf h p e Rm s m args below meth c Qt C hret H locs ls hH hS hl)
theorem R_ifne {a : Int32} {off : Int} (tgt : Nat) (hdg : decode cc pc = .ok (.ifCond .ne off, 3)) (ht : (pc : Int) + off = (tgt : Int)) (kt : ¬ a = 0 → R G l y cc nL ret d mc ms Q tgt lv st w k n) (kf : a = 0 → R G l y cc nL ret d mc ms Q (pc + 3) lv st w k n) : R G l y cc nL ret d mc ms Q pc lv (.int a :: st) w k n := by
  intro p e Rm s m args below meth c Qt C hret H locs ls hH hS hl
  exact lv_if_ne C.1 C.2.1 hdg ht (fun h => kt h p e Rm s m args below meth c Qt C hret H locs ls hH hS hl) (fun h => kf h p e Rm s m args below meth c Qt C hret H locs ls hH hS hl)
theorem R_icne {a b : Int32} {off : Int} (tgt : Nat) (hdg : decode cc pc = .ok (.if_icmp .ne off, 3)) (ht : (pc : Int) + off = (tgt : Int)) (kt : ¬ a = b → R G l y cc nL ret d mc ms Q tgt lv st w k n) (kf : a = b → R G l y cc nL ret d mc ms Q (pc + 3) lv st w k n) : R G l y cc nL ret d mc ms Q pc lv (.int b :: .int a :: st) w k n := by
  intro p e Rm s m args below meth c Qt C hret H locs ls hH hS hl
  exact lv_icmp_ne C.1 C.2.1 hdg ht (fun h => kt h p e Rm s m args below meth c Qt C hret H locs ls hH hS hl) (fun h => kf h p e Rm s m args below meth c Qt C hret H locs ls hH hS hl)
theorem R_goto {off : Int} (tgt : Nat) (hdg : decode cc pc = .ok (.goto off, 3)) (ht : (pc : Int) + off = (tgt : Int)) (kk : R G l y cc nL ret d mc ms Q tgt lv st w k n) : R G l y cc nL ret d mc ms Q pc lv st w k n := by
  intro p e Rm s m args below meth c Qt C hret H locs ls hH hS hl
  exact lv_goto C.1 C.2.1 hdg ht (kk p e Rm s m args below meth c Qt C hret H locs ls hH hS hl)
theorem R_tin {dflt lo hi : Int} {offs : Array Int} {len : Nat} {a : Int32} {off : Int} (tgt : Nat) (hdg : decode cc pc = .ok (.tableswitch dflt lo hi offs, len)) (h1 : ¬ a.toInt < lo) (h2 : ¬ hi < a.toInt) (ho : offs[(a.toInt - lo).toNat]? = some off) (ht : (pc : Int) + off = (tgt : Int)) (kk : R G l y cc nL ret d mc ms Q tgt lv st w k n) : R G l y cc nL ret d mc ms Q pc lv (.int a :: st) w k n := by
  intro p e Rm s m args below meth c Qt C hret H locs ls hH hS hl
  exact lv_tableIn C.1 C.2.1 hdg h1 h2 ho ht (kk p e Rm s m args below meth c Qt C hret H locs ls hH hS hl)
theorem R_tout {dflt lo hi : Int} {offs : Array Int} {len : Nat} {a : Int32} (tgt : Nat) (hdg : decode cc pc = .ok (.tableswitch dflt lo hi offs, len)) (h : a.toInt < lo ∨ hi < a.toInt) (ht : (pc : Int) + dflt = (tgt : Int)) (kk : R G l y cc nL ret d mc ms Q tgt lv st w k n) : R G l y cc nL ret d mc ms Q pc lv (.int a :: st) w k n := by
  intro p e Rm s m args below meth c Qt C hret H locs ls hH hS hl
  exact lv_tableOut C.1 C.2.1 hdg h ht (kk p e Rm s m args below meth c Qt C hret H locs ls hH hS hl)
theorem R_iret {v : Int32} {ty : FieldType} (hdg : decode cc pc = .ok (.ireturn, 1)) (hr : ret = some ty) (hv : narrow ty (.int v) = .int v) (hk : k ≤ mc) (hn : n ≤ ms) (hq : Q (some (.int v)) w) : R G l y cc nL ret d mc ms Q pc lv [.int v] w k n := by
  intro p e Rm s m args below meth c Qt C hret H locs ls hH hS hl
  exact hret (some (.int v)) w H locs k n pc ls hq hH hS hk hn hdg ⟨ty, hr, hv⟩
theorem R_lret {v : Int64} (hdg : decode cc pc = .ok (.lreturn, 1)) (hr : ret = some .long) (hk : k ≤ mc) (hn : n ≤ ms) (hq : Q (some (.long v)) w) : R G l y cc nL ret d mc ms Q pc lv [.long v] w k n := by
  intro p e Rm s m args below meth c Qt C hret H locs ls hH hS hl
  exact hret (some (.long v)) w H locs k n pc ls hq hH hS hk hn hdg hr
theorem R_vret (hdg : decode cc pc = .ok (.return_, 1)) (hr : ret = none) (hk : k ≤ mc) (hn : n ≤ ms) (hq : Q none w) : R G l y cc nL ret d mc ms Q pc lv [] w k n := by
  intro p e Rm s m args below meth c Qt C hret H locs ls hH hS hl
  exact hret none w H locs k n pc ls hq hH hS hk hn hdg hr
theorem R_ldc {index : Nat} {v : Int32} (hc : (Jvm.Cond.constant y.cls index v) ∈ TW) (hdg : decode cc pc = .ok (.ldc index, 2)) (kk : R G l y cc nL ret d mc ms Q (pc + 2) lv (.int v :: st) w k n) : R G l y cc nL ret d mc ms Q pc lv st w k n := by
  intro p e Rm s m args below meth c Qt C hret H locs ls hH hS hl
  exact lv_ldc C.1 C.2.1 C.2.2.2.1 (C.2.2.2.2.1 _ hc) hdg (kk p e Rm s m args below meth c Qt C hret H locs ls hH hS hl)
theorem R_ldc2 {index : Nat} {v : Int64} (hc : (Jvm.Cond.constantLong y.cls index v) ∈ TW) (hdg : decode cc pc = .ok (.ldc2_w index, 3)) (kk : R G l y cc nL ret d mc ms Q (pc + 3) lv (.long v :: st) w k n) : R G l y cc nL ret d mc ms Q pc lv st w k n := by
  intro p e Rm s m args below meth c Qt C hret H locs ls hH hS hl
  exact lv_ldc2 C.1 C.2.1 C.2.2.2.1 (C.2.2.2.2.1 _ hc) hdg (kk p e Rm s m args below meth c Qt C hret H locs ls hH hS hl)
theorem R_iload_n {j : Fin 4} {i : Nat} {x : Int32} (hdg : decode cc pc = .ok (.iload_n j, 1)) (hj : (j : Nat) = i) (h : lv[i]? = some (some (.int x))) (kk : R G l y cc nL ret d mc ms Q (pc + 1) lv (.int x :: st) w k n) : R G l y cc nL ret d mc ms Q pc lv st w k n := by
  intro p e Rm s m args below meth c Qt C hret H locs ls hH hS hl
  exact lv_iload_n C.1 C.2.1 hdg hj (hl.2.2 _ _ h) (kk p e Rm s m args below meth c Qt C hret H locs ls hH hS hl)
theorem R_iload {i : Nat} {x : Int32} (hdg : decode cc pc = .ok (.iload i, 2)) (h : lv[i]? = some (some (.int x))) (kk : R G l y cc nL ret d mc ms Q (pc + 2) lv (.int x :: st) w k n) : R G l y cc nL ret d mc ms Q pc lv st w k n := by
  intro p e Rm s m args below meth c Qt C hret H locs ls hH hS hl
  exact lv_iload C.1 C.2.1 hdg (hl.2.2 _ _ h) (kk p e Rm s m args below meth c Qt C hret H locs ls hH hS hl)
theorem R_lload_n {j : Fin 4} {i : Nat} {x : Int64} (hdg : decode cc pc = .ok (.lload_n j, 1)) (hj : (j : Nat) = i) (h : lv[i]? = some (some (.long x))) (kk : R G l y cc nL ret d mc ms Q (pc + 1) lv (.long x :: st) w k n) : R G l y cc nL ret d mc ms Q pc lv st w k n := by
  intro p e Rm s m args below meth c Qt C hret H locs ls hH hS hl
  exact lv_lload_n C.1 C.2.1 hdg hj (hl.2.2 _ _ h) (kk p e Rm s m args below meth c Qt C hret H locs ls hH hS hl)
theorem R_lload {i : Nat} {x : Int64} (hdg : decode cc pc = .ok (.lload i, 2)) (h : lv[i]? = some (some (.long x))) (kk : R G l y cc nL ret d mc ms Q (pc + 2) lv (.long x :: st) w k n) : R G l y cc nL ret d mc ms Q pc lv st w k n := by
  intro p e Rm s m args below meth c Qt C hret H locs ls hH hS hl
  exact lv_lload C.1 C.2.1 hdg (hl.2.2 _ _ h) (kk p e Rm s m args below meth c Qt C hret H locs ls hH hS hl)
theorem R_aload_n {j : Fin 4} {i : Nat} {x : Nat} (hdg : decode cc pc = .ok (.aload_n j, 1)) (hj : (j : Nat) = i) (h : lv[i]? = some (some (.ref x))) (kk : R G l y cc nL ret d mc ms Q (pc + 1) lv (.ref x :: st) w k n) : R G l y cc nL ret d mc ms Q pc lv st w k n := by
  intro p e Rm s m args below meth c Qt C hret H locs ls hH hS hl
  exact lv_aload_n C.1 C.2.1 hdg hj (hl.2.2 _ _ h) (kk p e Rm s m args below meth c Qt C hret H locs ls hH hS hl)
theorem R_aload {i : Nat} {x : Nat} (hdg : decode cc pc = .ok (.aload i, 2)) (h : lv[i]? = some (some (.ref x))) (kk : R G l y cc nL ret d mc ms Q (pc + 2) lv (.ref x :: st) w k n) : R G l y cc nL ret d mc ms Q pc lv st w k n := by
  intro p e Rm s m args below meth c Qt C hret H locs ls hH hS hl
  exact lv_aload C.1 C.2.1 hdg (hl.2.2 _ _ h) (kk p e Rm s m args below meth c Qt C hret H locs ls hH hS hl)
end RULES
def asL (G : vG) (lv : List (Option Value)) : List (Nat × Value) := lv.zipIdx.filterMap (fun q => q.1.map (fun v => (q.2, tv G v)))
theorem asL_mem {G : vG} {lv : List (Option Value)} {i : Nat} {v : Value} (h : lv[i]? = some (some v)) : (i, tv G v) ∈ asL G lv := by
  unfold asL
  refine List.mem_filterMap.mpr ⟨(some v, i), ?_, rfl⟩
  exact List.mem_zipIdx_iff_getElem?.mpr h
theorem asL_inv {G : vG} {lv : List (Option Value)} {q : Nat × Value} (h : q ∈ asL G lv) : ∃ v, lv[q.1]? = some (some v) ∧ q.2 = tv G v := by
  unfold asL at h
  obtain ⟨⟨o, i⟩, h1, h2⟩ := List.mem_filterMap.mp h
  have h3 := List.mem_zipIdx_iff_getElem?.mp h1
  cases o with
  | none => simp at h2
  | some v =>
    have : (i, tv G v) = q := by simpa using h2
    subst this
    exact ⟨v, h3, rfl⟩
theorem hasL_as {G : vG} {ls : Array Slot} {nL : Nat} {lv : List (Option Value)} (h : hasL G ls nL lv) : lv_has ls nL (asL G lv) := by
  refine ⟨h.1, h.2.1, fun q hq => ?_⟩
  obtain ⟨v, h1, h2⟩ := asL_inv hq
  rw [h2]
  exact h.2.2 _ _ h1
/-- one store of a value of one slot -/
theorem hasL_set1 {G : vG} {ls : Array Slot} {nL i : Nat} {lv lv' : List (Option Value)} {x : Value} (h : lv_has ls nL ((i, tv G x) :: (asL G lv).filter (fun q => !(q.1 == i) && !(q.1 + 1 == i && q.2.category == 2))))
    (h2 : ∀ (j : Nat) (v : Value), lv'[j]? = some (some v) → (j = i ∧ v = x) ∨ (j ≠ i ∧ lv[j]? = some (some v) ∧ (j + 1 = i → v.category ≠ 2))) : hasL G ls nL lv' := by
  refine ⟨h.1, h.2.1, fun j v hj => ?_⟩
  rcases h2 j v hj with ⟨rfl, rfl⟩ | ⟨h3, h4, h5⟩
  · exact h.2.2 _ List.mem_cons_self
  · refine h.2.2 (j, tv G v) (List.mem_cons_of_mem _ (List.mem_filter.mpr ⟨asL_mem h4, ?_⟩))
    by_cases h6 : j + 1 = i
    · simp [h3, tv_cat, h5 h6]
    · simp [h3, h6]
theorem hasL_set2 {G : vG} {ls : Array Slot} {nL i : Nat} {lv lv' : List (Option Value)} {x : Value} (h : lv_has ls nL ((i, tv G x) :: (asL G lv).filter (fun q => !(q.1 == i) && (!(q.1 == i + 1) && !(q.1 + 1 == i && q.2.category == 2)))))
    (h2 : ∀ (j : Nat) (v : Value), lv'[j]? = some (some v) → (j = i ∧ v = x) ∨ (j ≠ i ∧ j ≠ i + 1 ∧ lv[j]? = some (some v) ∧ (j + 1 = i → v.category ≠ 2))) : hasL G ls nL lv' := by
  refine ⟨h.1, h.2.1, fun j v hj => ?_⟩
  rcases h2 j v hj with ⟨rfl, rfl⟩ | ⟨h3, h3', h4, h5⟩
  · exact h.2.2 _ List.mem_cons_self
  · refine h.2.2 (j, tv G v) (List.mem_cons_of_mem _ (List.mem_filter.mpr ⟨asL_mem h4, ?_⟩))
    by_cases h6 : j + 1 = i
    · simp [h3, h3', tv_cat, h5 h6]
    · simp [h3, h3', h6]
end
section
/-! reading and writing cells -/
section WORLD
variable {G : vG} {l : Launch} {y : MethodName} {cc : ByteArray} {nL : Nat} {ret : Option FieldType} {d mc ms : Nat} {Q : Option Value → VW → Prop} {pc : Nat} {lv : List (Option Value)} {st : List Value} {w : VW} {k n : Nat}
theorem R_get {C ref : String} {T : u_T} {N ci index a j : Nat} {fs : List Value} {v : Value} (hc : vwCl[ci]? = some (C, T, N)) (hin : ∀ w ∈ u_ws C T N, w ∈ TW) (hj : j < N) (hlink : Cond.fieldLink y.cls index ref (T j).2.1 (T j).2.2.1 ∈ TW) (hsame : (T j).1 = ref)
    (hdg : decode cc pc = .ok (.getfield index, 3)) (he : w[a]? = some (.inr (ci, fs))) (hv : fs[j]? = some v) (kk : R G l y cc nL ret d mc ms Q (pc + 3) lv (v :: st) w k n) : R G l y cc nL ret d mc ms Q pc lv (.ref a :: st) w k n := by
  intro p e Rm s m args below meth c Qt C0 hret H locs ls hH hS hl
  refine va_get (D := gD G) (ci := ci) (v := tv G v) C0.1 C0.2.1 C0.2.2.2.2.1 hin C0.2.2.2.1 C0.2.2.2.2.2.1.1 hH.2.2 a (rw_get he) hc j hj (C0.2.2.2.2.1 _ hlink) (fun _ h => by rw [hsame] at h; exact h) ?_ hdg (kk p e Rm s m args below meth c Qt C0 hret H locs ls hH hS hl)
  rw [List.getElem?_map, hv]
  rfl
theorem fits_tv {G : vG} {ty : FieldType} {v : Value} (h : fits ty v = true) : fits ty (tv G v) = true := by
  cases v <;> first | exact h | (cases ty <;> first | exact h | rfl)
theorem narrow_tv {G : vG} {ty : FieldType} {v : Value} (h : narrow ty v = v) : narrow ty (tv G v) = tv G v := by
  cases v <;> first | exact h | (cases ty <;> first | exact h | rfl)
theorem hp_set {G : vG} {w : VW} {H H1 : Heap} {a : Nat} {e : VE} (hH : hpOK G w H) (hz : H1.size = H.size) (hP : va_P (gD G) vwCl ((rw' G w).set a (ad G a, te G e)) H1) : hpOK G (w.set a e) H1 := by
  refine ⟨by rw [hz, List.length_set]; exact hH.1, by rw [List.length_set]; exact hH.2.1, ?_⟩
  rw [← rw_set]
  exact hP
theorem ad_Ar {G : vG} {w : VW} {H : Heap} {a : Nat} {e : VE} (hH : hpOK G w H) (he : w[a]? = some e) : Ar G (ad G a) := (rw_D hH.2.1).2 a _ (rw_get he)
/-- a field that isn't final is written -/
theorem R_put {C ref : String} {T : u_T} {ty0 : Nat → FieldType} {N ci index a j : Nat} {fs : List Value} {v : Value} (hc : vwCl[ci]? = some (C, T, N)) (hin : ∀ w ∈ u_ws C T N, w ∈ TW) (hty : ∀ k, k < N → parseFieldDescriptor (T k).2.2.1 = some (ty0 k)) (hnm : ∀ a, a < N → ∀ b, b < N → a ≠ b → (T a).2.1 ≠ (T b).2.1) (hj : j < N) (hlink : Cond.fieldLink y.cls index ref (T j).2.1 (T j).2.2.1 ∈ TW) (hsame : (T j).1 = ref) (hfin : (T j).2.2.2 = false)
    (hn : narrow (ty0 j) v = v) (hfit : fits (ty0 j) v = true)
    (hdg : decode cc pc = .ok (.putfield index, 3)) (he : w[a]? = some (.inr (ci, fs))) (hl0 : j < fs.length) (kk : R G l y cc nL ret d mc ms Q (pc + 3) lv st (w.set a (.inr (ci, fs.set j v))) k n) : R G l y cc nL ret d mc ms Q pc lv (v :: .ref a :: st) w k n := by
  intro p e Rm s m args below meth c Qt C0 hret H locs ls hH hS hl
  have hts := C0.2.2.2.2.1
  have hK := C0.2.2.2.2.2.1.1
  have hP := hH.2.2
  have hD : va_D (Ar G) (rw' G w) := rw_D hH.2.1
  have he' := rw_get (G := G) he
  have hap := va_apart (own := y.cls) hts hin ty0 hty hnm hK hc
  obtain ⟨r, h1, cell, q1, q2, q3, q4⟩ := hP a _ he'
  have hr : r = (C, T, N) := Option.some.inj (h1.symm.trans hc)
  subst hr
  obtain ⟨hSl, hfc, kC, hkC, hkind⟩ := hK.1 ci _ hc
  obtain ⟨cf, kf, fi, f, hi, hsl⟩ := hSl j hj
  have hlay := hts _ (hin _ (u_in_lay hj))
  unfold u_lay at hlay
  rw [if_neg (by rw [hfin]; decide)] at hlay
  have hst := (u_facts hfc hkC (u_lays hts hin hj) hi).1
  have h6 := u_store hfc hkC hkind hlay hi (hty j hj) (narrow_tv (G := G) hn) (fits_tv (G := G) hfit)
  refine W.putK C0.1 C0.2.1 (f := f) ⟨C0.2.2.2.1, hts _ hlink, ⟨_, _, _, by rw [hsame] at hi; exact hi⟩, hst⟩ (by rw [q2]; exact h6) q1 q3 (by rw [hsl]; exact k2_hasslot (q4 j hj)) rfl rfl hdg fun H' e1 e2 e3 => ?_
  rw [hsl] at e1 ⊢
  have hll : j < (fs.map (tv G)).length := by rw [List.length_map]; exact hl0
  have hP' := hP.set hD he' (e := .inr (ci, (fs.map (tv G)).set j (tv G v))) ⟨_, hc, t_OB.to (V := updV (vp_V (fs.map (tv G))) j (tv G v)) ⟨_, e1, q2, q3, t_set q4 hap hj (tv G v)⟩ (fun i _ => vp_updV_set hll (tv G v) i)⟩ e3
  refine kk p e Rm s m args below meth c Qt C0 hret H' _ ls (hp_set hH e2 ?_) (hS.put e2 e3 (ad_Ar hH he)) hl
  show va_P (gD G) vwCl ((rw' G w).set a (ad G a, .inr (ci, (fs.set j v).map (tv G)))) H'
  rw [List.map_set]
  exact hP'
/-- a final field, in its constructor -/
theorem R_putF {C ref : String} {T : u_T} {ty0 : Nat → FieldType} {N ci index a j : Nat} {fs : List Value} {v : Value} (hc : vwCl[ci]? = some (C, T, N)) (hin : ∀ w ∈ u_ws C T N, w ∈ TW) (hty : ∀ k, k < N → parseFieldDescriptor (T k).2.2.1 = some (ty0 k)) (hnm : ∀ a, a < N → ∀ b, b < N → a ≠ b → (T a).2.1 ≠ (T b).2.1) (hj : j < N) (hlink : Cond.fieldLink y.cls index ref (T j).2.1 (T j).2.2.1 ∈ TW) (hsame : (T j).1 = ref) (hfin : (T j).2.2.2 = true) (hcl : (T j).1 = y.cls) (hini : y.name = "<init>")
    (hn : narrow (ty0 j) v = v) (hfit : fits (ty0 j) v = true)
    (hdg : decode cc pc = .ok (.putfield index, 3)) (he : w[a]? = some (.inr (ci, fs))) (hl0 : j < fs.length) (kk : R G l y cc nL ret d mc ms Q (pc + 3) lv st (w.set a (.inr (ci, fs.set j v))) k n) : R G l y cc nL ret d mc ms Q pc lv (v :: .ref a :: st) w k n := by
  intro p e Rm s m args below meth c Qt C0 hret H locs ls hH hS hl
  have hts := C0.2.2.2.2.1
  have hK := C0.2.2.2.2.2.1.1
  have hP := hH.2.2
  have hD : va_D (Ar G) (rw' G w) := rw_D hH.2.1
  have he' := rw_get (G := G) he
  have hap := va_apart (own := y.cls) hts hin ty0 hty hnm hK hc
  obtain ⟨r, h1, cell, q1, q2, q3, q4⟩ := hP a _ he'
  have hr : r = (C, T, N) := Option.some.inj (h1.symm.trans hc)
  subst hr
  obtain ⟨hSl, hfc, kC, hkC, hkind⟩ := hK.1 ci _ hc
  obtain ⟨cf, kf, fi, f, hi, hsl⟩ := hSl j hj
  have hlay := hts _ (hin _ (u_in_lay hj))
  unfold u_lay at hlay
  rw [if_pos hfin] at hlay
  have hst := (u_facts hfc hkC (u_lays hts hin hj) hi).1
  have hcf : m.cls = cf := by
    obtain ⟨_, _, c', _, _, _, -, -, hf', -, -, -, hown2, -⟩ := Cond.laysFinal_spec hlay
    have e1 : c' = cf := by have := hi.symm.trans hf'; simp at this; exact this.1.symm
    rw [hcl] at hown2
    rw [← e1]; exact Option.some.inj (C0.2.2.2.1.symm.trans hown2)
  have h6 := u_fits hfc hkC hkind (Or.inr hlay) hi (hty j hj) (narrow_tv (G := G) hn) (fits_tv (G := G) hfit)
  refine W.putFinK C0.1 C0.2.1 C0.2.2.2.1 (hts _ hlink) (by rw [hsame] at hi; exact hi) hst hcf (C0.2.2.2.2.2.2.2.2.2.2.trans hini) (by rw [q2]; exact h6) q1 q3 (by rw [hsl]; exact k2_hasslot (q4 j hj)) rfl rfl hdg fun H' e1 e2 e3 => ?_
  rw [hsl] at e1 ⊢
  have hll : j < (fs.map (tv G)).length := by rw [List.length_map]; exact hl0
  have hP' := hP.set hD he' (e := .inr (ci, (fs.map (tv G)).set j (tv G v))) ⟨_, hc, t_OB.to (V := updV (vp_V (fs.map (tv G))) j (tv G v)) ⟨_, e1, q2, q3, t_set q4 hap hj (tv G v)⟩ (fun i _ => vp_updV_set hll (tv G v) i)⟩ e3
  refine kk p e Rm s m args below meth c Qt C0 hret H' _ ls (hp_set hH e2 ?_) (hS.put e2 e3 (ad_Ar hH he)) hl
  show va_P (gD G) vwCl ((rw' G w).set a (ad G a, .inr (ci, (fs.set j v).map (tv G)))) H'
  rw [List.map_set]
  exact hP'
theorem R_iaload {a N : Nat} {f : Nat → Int32} {i : Int32} (hdg : decode cc pc = .ok (.iaload, 1)) (he : w[a]? = some (.inl (0, N, .inl f))) (hin : vp_in i N) (kk : R G l y cc nL ret d mc ms Q (pc + 1) lv (.int (f i.toNatClampNeg) :: st) w k n) : R G l y cc nL ret d mc ms Q pc lv (.int i :: .ref a :: st) w k n := by
  intro p e Rm s m args below meth c Qt C0 hret H locs ls hH hS hl
  exact va_iald C0.1 C0.2.1 C0.2.2.2.2.2.1.1 hH.2.2 a 0 (rw_get he) rfl hin hdg (kk p e Rm s m args below meth c Qt C0 hret H locs ls hH hS hl)
theorem R_baload {a N : Nat} {f : Nat → Int32} {i : Int32} (hdg : decode cc pc = .ok (.baload, 1)) (he : w[a]? = some (.inl (2, N, .inl f))) (hin : vp_in i N) (kk : R G l y cc nL ret d mc ms Q (pc + 1) lv (.int (f i.toNatClampNeg) :: st) w k n) : R G l y cc nL ret d mc ms Q pc lv (.int i :: .ref a :: st) w k n := by
  intro p e Rm s m args below meth c Qt C0 hret H locs ls hH hS hl
  exact va_zald C0.1 C0.2.1 C0.2.2.2.2.2.1.1 hH.2.2 a 2 (rw_get he) rfl hin hdg (kk p e Rm s m args below meth c Qt C0 hret H locs ls hH hS hl)
theorem R_laload {a N : Nat} {f : Nat → Int64} {i : Int32} (hdg : decode cc pc = .ok (.laload, 1)) (he : w[a]? = some (.inl (1, N, .inr (.inl f)))) (hin : vp_in i N) (kk : R G l y cc nL ret d mc ms Q (pc + 1) lv (.long (f i.toNatClampNeg) :: st) w k n) : R G l y cc nL ret d mc ms Q pc lv (.int i :: .ref a :: st) w k n := by
  intro p e Rm s m args below meth c Qt C0 hret H locs ls hH hS hl
  exact va_lald C0.1 C0.2.1 C0.2.2.2.2.2.1.1 hH.2.2 a 1 (rw_get he) rfl hin hdg (kk p e Rm s m args below meth c Qt C0 hret H locs ls hH hS hl)
/-- a row of an array of rows -/
theorem R_aaload {a N b : Nat} {f : Nat → Option Nat} {i : Int32} (hdg : decode cc pc = .ok (.aaload, 1)) (he : w[a]? = some (.inl (3, N, .inr (.inr (.inr (.inr f)))))) (hin : vp_in i N) (hv : f i.toNatClampNeg = some b) (kk : R G l y cc nL ret d mc ms Q (pc + 1) lv (.ref b :: st) w k n) : R G l y cc nL ret d mc ms Q pc lv (.int i :: .ref a :: st) w k n := by
  intro p e Rm s m args below meth c Qt C0 hret H locs ls hH hS hl
  have hK := C0.2.2.2.2.2.1.1
  have hlt : i.toNatClampNeg < N := Nat.not_le.mp fun q => hin (Or.inr q)
  have he' : (rw' G w)[a]? = some (ad G a, .inl (gA G 3, N, .inr (.inr (.inr (.inr (fun i => (f i).map (ad G))))))) := rw_get he
  have hcell := hH.2.2 a _ he'
  refine W.aald (v := .ref (ad G b)) (ty := .array .int) C0.1 C0.2.1 hcell ((hK.2 3 _ rfl).1 N (fun j => va_rf ((f j).map (ad G)))) rfl (fun q => by cases q) (by show ¬ (i < 0 ∨ (arrV _ _ _).slots.size ≤ _); rw [arrV_size]; exact hin) (by show (arrV _ _ _).slots[_]? = _; rw [arrV_read _ _ hlt]; show some (va_rf ((f i.toNatClampNeg).map (ad G))) = _; rw [hv]; rfl) rfl rfl hdg (kk p e Rm s m args below meth c Qt C0 hret H locs ls hH hS hl)
theorem R_iastore {a N : Nat} {f : Nat → Int32} {i x : Int32} (hdg : decode cc pc = .ok (.iastore, 1)) (he : w[a]? = some (.inl (0, N, .inl f))) (hin : vp_in i N) (kk : R G l y cc nL ret d mc ms Q (pc + 1) lv st (w.set a (.inl (0, N, .inl (upd f i.toNatClampNeg x)))) k n) : R G l y cc nL ret d mc ms Q pc lv (.int x :: .int i :: .ref a :: st) w k n := by
  intro p e Rm s m args below meth c Qt C0 hret H locs ls hH hS hl
  have hK := C0.2.2.2.2.2.1.1
  have hP := hH.2.2
  have hD : va_D (Ar G) (rw' G w) := rw_D hH.2.1
  have he' : (rw' G w)[a]? = some (ad G a, .inl (gA G 0, N, .inl f)) := rw_get he
  refine W.iast C0.1 C0.2.1 (hP a _ he') ((hK.2 0 _ rfl).1 N (fun j => .int (f j))) (fun q => by cases q) (by show ¬ (i < 0 ∨ (arrV _ _ _).slots.size ≤ _); rw [arrV_size]; exact hin) rfl rfl hdg fun H1 e1 z oq => ?_
  refine kk p e Rm s m args below meth c Qt C0 hret H1 _ ls (hp_set (e := .inl (0, N, .inl (upd f i.toNatClampNeg x))) hH z (hP.set hD he' (e := .inl (gA G 0, N, .inl (upd f i.toNatClampNeg x))) ?_ oq)) (hS.put z oq (ad_Ar hH he)) hl
  show H1[ad G a]? = some (vp_cell _ _)
  rw [e1]
  rw [vp_cell_i, vp_cell_i, arrV_store]
  congr 2
  funext q
  by_cases hq : q = i.toNatClampNeg
  · subst hq
    simp [updV, upd]
  · simp [updV, upd, hq]
theorem R_bastore {a N : Nat} {f : Nat → Int32} {i x : Int32} (hdg : decode cc pc = .ok (.bastore, 1)) (he : w[a]? = some (.inl (2, N, .inl f))) (hin : vp_in i N) (hx : vp_nar .boolean x = x) (kk : R G l y cc nL ret d mc ms Q (pc + 1) lv st (w.set a (.inl (2, N, .inl (upd f i.toNatClampNeg x)))) k n) : R G l y cc nL ret d mc ms Q pc lv (.int x :: .int i :: .ref a :: st) w k n := by
  intro p e Rm s m args below meth c Qt C0 hret H locs ls hH hS hl
  have hK := C0.2.2.2.2.2.1.1
  have hP := hH.2.2
  have hD : va_D (Ar G) (rw' G w) := rw_D hH.2.1
  have he' : (rw' G w)[a]? = some (ad G a, .inl (gA G 2, N, .inl f)) := rw_get he
  refine W.zast C0.1 C0.2.1 (hP a _ he') ((hK.2 2 _ rfl).1 N (fun j => .int (f j))) (fun q => by cases q) (by show ¬ (i < 0 ∨ (arrV _ _ _).slots.size ≤ _); rw [arrV_size]; exact hin) rfl rfl hdg fun H1 e1 z oq => ?_
  refine kk p e Rm s m args below meth c Qt C0 hret H1 _ ls (hp_set (e := .inl (2, N, .inl (upd f i.toNatClampNeg x))) hH z (hP.set hD he' (e := .inl (gA G 2, N, .inl (upd f i.toNatClampNeg x))) ?_ oq)) (hS.put z oq (ad_Ar hH he)) hl
  show H1[ad G a]? = some (vp_cell _ _)
  rw [e1]
  rw [vp_cell_i, vp_cell_i, arrV_store]
  congr 2
  funext q
  by_cases hq : q = i.toNatClampNeg
  · subst hq
    simp [updV, upd]
    rw [show narrow .boolean (.int x) = .int (vp_nar .boolean x) from rfl, hx]
  · simp [updV, upd, hq]
theorem R_lastore {a N : Nat} {f : Nat → Int64} {i : Int32} {x : Int64} (hdg : decode cc pc = .ok (.lastore, 1)) (he : w[a]? = some (.inl (1, N, .inr (.inl f)))) (hin : vp_in i N) (kk : R G l y cc nL ret d mc ms Q (pc + 1) lv st (w.set a (.inl (1, N, .inr (.inl (vp_updL f i.toNatClampNeg x))))) k n) : R G l y cc nL ret d mc ms Q pc lv (.long x :: .int i :: .ref a :: st) w k n := by
  intro p e Rm s m args below meth c Qt C0 hret H locs ls hH hS hl
  have hK := C0.2.2.2.2.2.1.1
  have hP := hH.2.2
  have hD : va_D (Ar G) (rw' G w) := rw_D hH.2.1
  have he' : (rw' G w)[a]? = some (ad G a, .inl (gA G 1, N, .inr (.inl f))) := rw_get he
  refine W.last C0.1 C0.2.1 (hP a _ he') ((hK.2 1 _ rfl).1 N (fun j => .long (f j))) (fun q => by cases q) (by show ¬ (i < 0 ∨ (arrV _ _ _).slots.size ≤ _); rw [arrV_size]; exact hin) rfl rfl hdg fun H1 e1 z oq => ?_
  refine kk p e Rm s m args below meth c Qt C0 hret H1 _ ls (hp_set (e := .inl (1, N, .inr (.inl (vp_updL f i.toNatClampNeg x)))) hH z (hP.set hD he' (e := .inl (gA G 1, N, .inr (.inl (vp_updL f i.toNatClampNeg x)))) ?_ oq)) (hS.put z oq (ad_Ar hH he)) hl
  show H1[ad G a]? = some (vp_cell _ _)
  rw [e1]
  rw [vp_cell_l, vp_cell_l, arrV_store]
  congr 2
  funext q
  by_cases hq : q = i.toNatClampNeg
  · subst hq
    simp [updV, vp_updL]
  · simp [updV, vp_updL, hq]
/-- the script, at place 1000200 -/
theorem R_slen (hdg : decode cc pc = .ok (.arraylength, 1)) (kk : R G l y cc nL ret d mc ms Q (pc + 1) lv (.int (nI (gL G)) :: st) w k n) : R G l y cc nL ret d mc ms Q pc lv (.ref 1000200 :: st) w k n := by
  intro p e Rm s m args below meth c Qt C0 hret H locs ls hH hS hl
  obtain ⟨-, -, -, -, -, -, hX, h8, h9, -⟩ := C0.2.2.2.2.2.1
  exact va_slen C0.1 C0.2.1 hX (Nat.lt_of_lt_of_le h8 h9) (Nat.not_le.mpr h8) hS hdg (kk p e Rm s m args below meth c Qt C0 hret H locs ls hH hS hl)
theorem R_sld {i : Int32} (hdg : decode cc pc = .ok (.iaload, 1)) (hin : vp_in i (gL G)) (kk : R G l y cc nL ret d mc ms Q (pc + 1) lv (.int (gX G i.toNatClampNeg) :: st) w k n) : R G l y cc nL ret d mc ms Q pc lv (.int i :: .ref 1000200 :: st) w k n := by
  intro p e Rm s m args below meth c Qt C0 hret H locs ls hH hS hl
  obtain ⟨-, -, -, -, -, -, hX, h8, h9, -⟩ := C0.2.2.2.2.2.1
  exact va_sld C0.1 C0.2.1 hX (Nat.lt_of_lt_of_le h8 h9) (Nat.not_le.mpr h8) hS hin hdg (kk p e Rm s m args below meth c Qt C0 hret H locs ls hH hS hl)
end WORLD
end
section
/-! calls, new objects, new arrays, Math -/
theorem tv_app (G : vG) (as st : List Value) : (as.reverse ++ st).map (tv G) = (as.map (tv G)).reverse ++ st.map (tv G) := by
  rw [List.map_append, List.map_reverse]
theorem Qm_blind {G : vG} {as : List Value} {w : VW} : FrameBlind (va_Pc (as.map (tv G)) (fun U => hpOK G w U.heap ∧ K9 G U U.heap)) := fun a U g mk q => ⟨q.1, q.2.1, q.2.2.call g mk a⟩
section CALLS
variable {G : vG} {l : Launch} {y : MethodName} {cc : ByteArray} {nL : Nat} {ret : Option FieldType} {d mc ms : Nat} {Q : Option Value → VW → Prop} {pc : Nat} {lv : List (Option Value)} {st : List Value} {w : VW} {k n : Nat}
theorem call_go {p : Program} {e : Env} {Rm : Room} {s : State} {m : MethodId} {args : Array Value} {below : List Frame} {meth : Method} {c : Code} {Qt : State → Prop} {H : Heap} {locs : List Loc} {k n mc2 ms2 : Nat} {ls : Array Slot} {st0 rest : List Value} {Q2 : Option Value → VW → Prop} {a : Array Value}
    (hr : va_Run p l e Rm s m args below meth c H locs k n mc2 ms2 (F0 m pc ls st0) rest (Qm G Q2 a) (Ar G)) (hS : va_S (Ar G) s.heap H locs)
    (kk : ∀ (r : Option Value) (w' : VW) (H1 : Heap) (locs1 : List Loc), Q2 r w' → hpOK G w' H1 → va_S (Ar G) s.heap H1 locs1 → W p l e Rm s m args below meth c H1 locs1 (k + mc2) (n + ms2) Qt (F0 m (pc + 3) ls ((r.map (tv G)).toList ++ rest))) : W p l e Rm s m args below meth c H locs k n Qt (F0 m pc ls st0) := by
  intro T hT X
  obtain ⟨v, st₀, t, T', L, h0, X', hL, e1, e2, ⟨⟨r, w', hv, hq, hp⟩, hz, hk⟩, stp⟩ := hr T hT X
  cases hv
  rw [h0] at hz hk
  obtain ⟨t2, a1, b1⟩ := kk r w' T'.heap (locs ++ L) hq (by rw [e1]; exact hp) ⟨Nat.le_trans hS.1 (by rw [e1]; exact hz), fun q h1 h2 => by rw [e1, hk q (Nat.lt_of_lt_of_le h1 hS.1) h2]; exact hS.2.1 q h1 h2, fun q hq => by
      rcases List.mem_append.mp hq with h | h
      · exact hS.2.2 q h
      · exact hL q h⟩ T' rfl X'
  exact ⟨t2, stp t2 a1, b1⟩
theorem K9_at {s U : State} {G : vG} {H : Heap} {locs : List Loc} (h : K9 G s s.heap) (hS : va_S (Ar G) s.heap H locs) (hU : U.heap = H) (hW : s.WarmedH U.vm) : K9 G U U.heap := by
  rw [hU]
  exact h.go hW hS.1 hS.2.1
theorem good_callee {y2 : MethodName} {cc2 : ByteArray} {nL2 : Nat} {ret2 : Option FieldType} (h : Cond.code y2 cc2 nL2 ret2 ∈ TW) : GoodIn TW (.code y2 cc2 nL2 ret2 :: TW) := by
  intro w hw
  rcases List.mem_cons.mp hw with rfl | hw
  · exact ⟨h, TW_good _ h⟩
  · exact ⟨hw, TW_good _ hw⟩
/-- the room of a callee in its caller's -/
theorem room_in {d d2 nL2 : Nat} {Rm : Room} (h : d2 < d) (hn : nL2 ≤ 21) (h1 : d ≤ Rm.frames) (h2 : 40 * d ≤ Rm.locals) : d2 + 1 ≤ Rm.frames ∧ 8 + (nL2 + 11) + 40 * d2 ≤ Rm.locals := by omega
theorem R_callV {y2 : MethodName} {cc2 : ByteArray} {nL2 d2 mc2 ms2 index b ci : Nat} {ret2 : Option FieldType} {q : vw_C} {fs : List Value} {as : List Value} {Q2 : Option Value → VW → Prop}
    (hM : Sp G l y2 cc2 nL2 ret2 d2 mc2 ms2 (.ref b :: as) w Q2) (hcode : Cond.code y2 cc2 nL2 ret2 ∈ TW) (hlink : Cond.methodLink y.cls index y2 ∈ TW) (hinst : Cond.instanceMethod y2 ∈ TW) (hsel : Cond.selects y2.cls y2 y2 ∈ TW) (hini : Cond.initialized y2.cls ∈ TW)
    (hd : y2.cls ≠ "java/lang/invoke/MethodHandle" ∧ y2.cls ≠ "java/lang/invoke/VarHandle" ∧ (parseMethodDescriptor y2.desc).map (fun d => d.parameters.length) = some as.length)
    (hdl : d2 < d) (hnl : nL2 ≤ 21) (hk : k + mc2 ≤ mc) (hn : n + ms2 ≤ ms) (hst : (st.map fun v => v.category).sum ≤ 8) (hc : vwCl[ci]? = some q) (hq : q.1 = y2.cls) (he : w[b]? = some (.inr (ci, fs)))
    (hdg : decode cc pc = .ok (.invokevirtual index, 3)) (kk : ∀ (r : Option Value) (w' : VW), Q2 r w' → R G l y cc nL ret d mc ms Q (pc + 3) lv (r.toList ++ st) w' (k + mc2) (n + ms2)) : R G l y cc nL ret d mc ms Q pc lv (as.reverse ++ .ref b :: st) w k n := by
  intro p e Rm s m args below meth c Qt C0 hret H locs ls hH hS hl
  have hts := C0.2.2.2.2.1
  have hR := room_in hdl hnl C0.2.2.2.2.2.2.1 C0.2.2.2.2.2.2.2.1
  have hk3 := C0.2.2.2.2.2.2.2.2.1
  have hn3 := C0.2.2.2.2.2.2.2.2.2.1
  have hrun := va_runV (e := e) (below := below) (meth := meth) (As := as.map (tv G)) (rest := st.map (tv G)) (g := F0 m pc ls ((as.reverse ++ .ref b :: st).map (tv G))) (n := as.length) (index := index) (cells := k) (slots := n) (locs := locs) (H := H) (C := y2.cls) (b := ad G b) ⟨C0.1, C0.2.1, C0.2.2.1, C0.2.2.2.1, hts⟩ hM
    ⟨callB_of as.length hts (good_callee hcode) rfl rfl rfl (hts _ hini) (hts _ hlink) hd hR, hts _ hinst, hts _ hsel⟩
    ⟨Qm_blind, by have := va_recv C0.2.2.2.2.2.1.1 hH.2.2 hc (rw_get he); rw [hq] at this; exact this, fun U hU hW => ⟨rfl, by rw [hU]; exact hH, K9_at C0.2.2.2.2.2.1 hS hU hW⟩⟩ rfl (List.length_map _) hl.1 (tv_app G as (.ref b :: st)) (lv_room (by rw [tv_cats]; exact hst)) hdg ⟨by omega, by omega⟩
  refine call_go hrun hS (fun r w' H1 locs1 hq2 hp2 hS2 => ?_)
  have h9 := kk r w' hq2 p e Rm s m args below meth c Qt C0 hret H1 locs1 ls hp2 hS2 hl
  rw [List.map_append] at h9
  cases r <;> exact h9
theorem R_callS {y2 : MethodName} {cc2 : ByteArray} {nL2 d2 mc2 ms2 index : Nat} {ret2 : Option FieldType} {as : List Value} {Q2 : Option Value → VW → Prop}
    (hM : Sp G l y2 cc2 nL2 ret2 d2 mc2 ms2 as w Q2) (hcode : Cond.code y2 cc2 nL2 ret2 ∈ TW) (hlink : Cond.methodLink y.cls index y2 ∈ TW) (hstt : Cond.static y2 ∈ TW) (hini : Cond.initialized y2.cls ∈ TW)
    (hd : y2.cls ≠ "java/lang/invoke/MethodHandle" ∧ y2.cls ≠ "java/lang/invoke/VarHandle" ∧ (parseMethodDescriptor y2.desc).map (fun d => d.parameters.length) = some as.length)
    (hdl : d2 < d) (hnl : nL2 ≤ 21) (hk : k + mc2 ≤ mc) (hn : n + ms2 ≤ ms) (hst : (st.map fun v => v.category).sum ≤ 8)
    (hdg : decode cc pc = .ok (.invokestatic index, 3)) (kk : ∀ (r : Option Value) (w' : VW), Q2 r w' → R G l y cc nL ret d mc ms Q (pc + 3) lv (r.toList ++ st) w' (k + mc2) (n + ms2)) : R G l y cc nL ret d mc ms Q pc lv (as.reverse ++ st) w k n := by
  intro p e Rm s m args below meth c Qt C0 hret H locs ls hH hS hl
  have hts := C0.2.2.2.2.1
  have hR := room_in hdl hnl C0.2.2.2.2.2.2.1 C0.2.2.2.2.2.2.2.1
  have hk3 := C0.2.2.2.2.2.2.2.2.1
  have hn3 := C0.2.2.2.2.2.2.2.2.2.1
  have hrun := va_runS (e := e) (below := below) (meth := meth) (As := as.map (tv G)) (rest := st.map (tv G)) (g := F0 m pc ls ((as.reverse ++ st).map (tv G))) (n := as.length) (index := index) (cells := k) (slots := n) (locs := locs) (H := H) ⟨C0.1, C0.2.1, C0.2.2.1, C0.2.2.2.1, hts⟩ hM
    ⟨callB_of as.length hts (good_callee hcode) rfl rfl rfl (hts _ hini) (hts _ hlink) hd hR, hts _ hstt⟩
    ⟨Qm_blind, fun U hU hW => ⟨rfl, by rw [hU]; exact hH, K9_at C0.2.2.2.2.2.1 hS hU hW⟩⟩ rfl (List.length_map _) hl.1 (tv_app G as st) (lv_room (by rw [tv_cats]; exact hst)) hdg ⟨by omega, by omega⟩
  refine call_go hrun hS (fun r w' H1 locs1 hq2 hp2 hS2 => ?_)
  have h9 := kk r w' hq2 p e Rm s m args below meth c Qt C0 hret H1 locs1 ls hp2 hS2 hl
  rw [List.map_append] at h9
  cases r <;> exact h9
/-- a nest mate's private static method -/
theorem R_callSN {y2 : MethodName} {cc2 : ByteArray} {nL2 d2 mc2 ms2 index : Nat} {ret2 : Option FieldType} {as : List Value} {Q2 : Option Value → VW → Prop}
    (hM : Sp G l y2 cc2 nL2 ret2 d2 mc2 ms2 as w Q2) (hcode : Cond.code y2 cc2 nL2 ret2 ∈ TW) (hlink : (y.cls, index, y2) ∈ NWl) (hstt : Cond.static y2 ∈ TW) (hini : Cond.initialized y2.cls ∈ TW)
    (hd : y2.cls ≠ "java/lang/invoke/MethodHandle" ∧ y2.cls ≠ "java/lang/invoke/VarHandle" ∧ (parseMethodDescriptor y2.desc).map (fun d => d.parameters.length) = some as.length)
    (hdl : d2 < d) (hnl : nL2 ≤ 21) (hk : k + mc2 ≤ mc) (hn : n + ms2 ≤ ms) (hst : (st.map fun v => v.category).sum ≤ 8)
    (hdg : decode cc pc = .ok (.invokestatic index, 3)) (kk : ∀ (r : Option Value) (w' : VW), Q2 r w' → R G l y cc nL ret d mc ms Q (pc + 3) lv (r.toList ++ st) w' (k + mc2) (n + ms2)) : R G l y cc nL ret d mc ms Q pc lv (as.reverse ++ st) w k n := by
  intro p e Rm s m args below meth c Qt C0 hret H locs ls hH hS hl
  have hts := C0.2.2.2.2.1
  have hR := room_in hdl hnl C0.2.2.2.2.2.2.1 C0.2.2.2.2.2.2.2.1
  have hk3 := C0.2.2.2.2.2.2.2.2.1
  have hn3 := C0.2.2.2.2.2.2.2.2.2.1
  have hrun := va_runSN (e := e) (below := below) (meth := meth) (As := as.map (tv G)) (rest := st.map (tv G)) (g := F0 m pc ls ((as.reverse ++ st).map (tv G))) (n := as.length) (index := index) (cells := k) (slots := n) (locs := locs) (H := H) ⟨C0.1, C0.2.1, C0.2.2.1, C0.2.2.2.1, hts⟩ hM
    ⟨va_cnB as.length hts (good_callee hcode) rfl rfl rfl (C0.2.2.2.2.2.1.2.1 _ hlink) (hts _ hini) hd hR, hts _ hstt, trivial⟩
    ⟨Qm_blind, fun U hU hW => ⟨rfl, by rw [hU]; exact hH, K9_at C0.2.2.2.2.2.1 hS hU hW⟩⟩ rfl (List.length_map _) hl.1 (tv_app G as st) (lv_room (by rw [tv_cats]; exact hst)) hdg ⟨by omega, by omega⟩
  refine call_go hrun hS (fun r w' H1 locs1 hq2 hp2 hS2 => ?_)
  have h9 := kk r w' hq2 p e Rm s m args below meth c Qt C0 hret H1 locs1 ls hp2 hS2 hl
  rw [List.map_append] at h9
  cases r <;> exact h9
theorem R_callI {y2 : MethodName} {cc2 : ByteArray} {nL2 d2 mc2 ms2 index b : Nat} {as : List Value} {Q2 : Option Value → VW → Prop}
    (hM : Sp G l y2 cc2 nL2 none d2 mc2 ms2 (.ref b :: as) w Q2) (hcode : Cond.code y2 cc2 nL2 none ∈ TW) (hlink : Cond.methodLink y.cls index y2 ∈ TW) (hinst : Cond.instanceMethod y2 ∈ TW) (hini : Cond.initialized y2.cls ∈ TW) (hname : y2.name = "<init>")
    (hd : y2.cls ≠ "java/lang/invoke/MethodHandle" ∧ y2.cls ≠ "java/lang/invoke/VarHandle" ∧ (parseMethodDescriptor y2.desc).map (fun d => d.parameters.length) = some as.length)
    (hdl : d2 < d) (hnl : nL2 ≤ 21) (hk : k + mc2 ≤ mc) (hn : n + ms2 ≤ ms) (hst : (st.map fun v => v.category).sum ≤ 8)
    (hdg : decode cc pc = .ok (.invokespecial index, 3)) (kk : ∀ (r : Option Value) (w' : VW), Q2 r w' → R G l y cc nL ret d mc ms Q (pc + 3) lv (r.toList ++ st) w' (k + mc2) (n + ms2)) : R G l y cc nL ret d mc ms Q pc lv (as.reverse ++ .ref b :: st) w k n := by
  intro p e Rm s m args below meth c Qt C0 hret H locs ls hH hS hl
  have hts := C0.2.2.2.2.1
  have hR := room_in hdl hnl C0.2.2.2.2.2.2.1 C0.2.2.2.2.2.2.2.1
  have hk3 := C0.2.2.2.2.2.2.2.2.1
  have hn3 := C0.2.2.2.2.2.2.2.2.2.1
  have hrun := va_runI (e := e) (below := below) (meth := meth) (As := as.map (tv G)) (rest := st.map (tv G)) (g := F0 m pc ls ((as.reverse ++ .ref b :: st).map (tv G))) (n := as.length) (index := index) (cells := k) (slots := n) (locs := locs) (H := H) (b := ad G b) ⟨C0.1, C0.2.1, C0.2.2.1, C0.2.2.2.1, hts⟩ hM
    ⟨callB_of as.length hts (good_callee hcode) rfl rfl rfl (hts _ hini) (hts _ hlink) hd hR, hname, hts _ hinst⟩
    ⟨Qm_blind, fun U hU hW => ⟨rfl, by rw [hU]; exact hH, K9_at C0.2.2.2.2.2.1 hS hU hW⟩⟩ rfl (List.length_map _) hl.1 (tv_app G as (.ref b :: st)) (lv_room (by rw [tv_cats]; exact hst)) hdg ⟨by omega, by omega⟩
  refine call_go hrun hS (fun r w' H1 locs1 hq2 hp2 hS2 => ?_)
  have h9 := kk r w' hq2 p e Rm s m args below meth c Qt C0 hret H1 locs1 ls hp2 hS2 hl
  rw [List.map_append] at h9
  cases r <;> exact h9
/-- a nest mate's private constructor -/
theorem R_callIN {y2 : MethodName} {cc2 : ByteArray} {nL2 d2 mc2 ms2 index b : Nat} {as : List Value} {Q2 : Option Value → VW → Prop}
    (hM : Sp G l y2 cc2 nL2 none d2 mc2 ms2 (.ref b :: as) w Q2) (hcode : Cond.code y2 cc2 nL2 none ∈ TW) (hlink : (y.cls, index, y2) ∈ NWl) (hinst : Cond.instanceMethod y2 ∈ TW) (hini : Cond.initialized y2.cls ∈ TW) (hname : y2.name = "<init>")
    (hd : y2.cls ≠ "java/lang/invoke/MethodHandle" ∧ y2.cls ≠ "java/lang/invoke/VarHandle" ∧ (parseMethodDescriptor y2.desc).map (fun d => d.parameters.length) = some as.length)
    (hdl : d2 < d) (hnl : nL2 ≤ 21) (hk : k + mc2 ≤ mc) (hn : n + ms2 ≤ ms) (hst : (st.map fun v => v.category).sum ≤ 8)
    (hdg : decode cc pc = .ok (.invokespecial index, 3)) (kk : ∀ (r : Option Value) (w' : VW), Q2 r w' → R G l y cc nL ret d mc ms Q (pc + 3) lv (r.toList ++ st) w' (k + mc2) (n + ms2)) : R G l y cc nL ret d mc ms Q pc lv (as.reverse ++ .ref b :: st) w k n := by
  intro p e Rm s m args below meth c Qt C0 hret H locs ls hH hS hl
  have hts := C0.2.2.2.2.1
  have hR := room_in hdl hnl C0.2.2.2.2.2.2.1 C0.2.2.2.2.2.2.2.1
  have hk3 := C0.2.2.2.2.2.2.2.2.1
  have hn3 := C0.2.2.2.2.2.2.2.2.2.1
  have hrun := va_runIN (e := e) (below := below) (meth := meth) (As := as.map (tv G)) (rest := st.map (tv G)) (g := F0 m pc ls ((as.reverse ++ .ref b :: st).map (tv G))) (n := as.length) (index := index) (cells := k) (slots := n) (locs := locs) (H := H) (b := ad G b) ⟨C0.1, C0.2.1, C0.2.2.1, C0.2.2.2.1, hts⟩ hM
    ⟨va_cnB as.length hts (good_callee hcode) rfl rfl rfl (C0.2.2.2.2.2.1.2.1 _ hlink) (hts _ hini) hd hR, hname, hts _ hinst⟩
    ⟨Qm_blind, fun U hU hW => ⟨rfl, by rw [hU]; exact hH, K9_at C0.2.2.2.2.2.1 hS hU hW⟩⟩ rfl (List.length_map _) hl.1 (tv_app G as (.ref b :: st)) (lv_room (by rw [tv_cats]; exact hst)) hdg ⟨by omega, by omega⟩
  refine call_go hrun hS (fun r w' H1 locs1 hq2 hp2 hS2 => ?_)
  have h9 := kk r w' hq2 p e Rm s m args below meth c Qt C0 hret H1 locs1 ls hp2 hS2 hl
  rw [List.map_append] at h9
  cases r <;> exact h9
end CALLS
end
section
/-! new objects, new arrays, Math, Strings -/
theorem vr_outer (c : ClassId) (N h0 : Nat) : ∀ i : Nat, Jvm.Free.Multi.outerC c N h0 i = arrV c N (fun j => va_rf (if j < i then some (h0 + 1 + j) else none))
  | 0 => by
    show ({ cls := c, slots := Array.replicate N .null, vm := .none } : Cell) = _
    rw [arrV_new]
    refine congrArg (arrV c N) (funext fun j => ?_)
    simp [va_rf]
  | i + 1 => by
    show (Jvm.Free.Multi.outerC c N h0 i).setSlot i (.ref (h0 + 1 + i)) = _
    rw [vr_outer c N h0 i, arrV_store]
    refine congrArg (arrV c N) (funext fun j => ?_)
    by_cases e : j = i
    · subst e
      simp [updV, va_rf]
    · by_cases h : j < i
      · simp [updV, e, h, Nat.lt_succ_of_lt h]
      · simp [updV, e, h, show ¬ j < i + 1 by omega]
section MAKE
variable {G : vG} {l : Launch} {y : MethodName} {cc : ByteArray} {nL : Nat} {ret : Option FieldType} {d mc ms : Nat} {Q : Option Value → VW → Prop} {pc : Nat} {lv : List (Option Value)} {st : List Value} {w : VW} {k n : Nat}
theorem hp_push {G : vG} {w : VW} {H H1 : Heap} {e : VE} (hH : hpOK G w H) (hlt : w.length < 1000000) (hz : H1.size = H.size + 1) (hk : ∀ q : Nat, q < H.size → H1[q]? = H[q]?) (he : va_at (gD G) vwCl (ad G w.length, te G e) H1) : hpOK G (w ++ [e]) H1 := by
  refine ⟨by rw [hz, hH.1, List.length_append]; rfl, by rw [List.length_append]; exact hlt, ?_⟩
  rw [← rw_push]
  exact (hH.2.2.kept (fun k x hx => hk x.1 ((hH.2.2 k x hx).lt))).app (fun k x hx => by
    have hz : k < 1 := (List.getElem?_eq_some_iff.mp hx).1
    rw [show k = 0 by omega] at hx
    cases hx
    exact he)
theorem ad_len {G : vG} {w : VW} {H : Heap} (hH : hpOK G w H) (hlt : w.length < 1000000) : ad G w.length = H.size := by
  rw [ad_lt hlt, hH.1]
theorem S_push {G : vG} {s : State} {H H1 : Heap} {locs : List Loc} (hS : va_S (Ar G) s.heap H locs) (hz : H.size ≤ H1.size) (hk : ∀ q : Nat, q < H.size → H1[q]? = H[q]?) : va_S (Ar G) s.heap H1 locs :=
  ⟨Nat.le_trans hS.1 hz, fun x h1 h2 => (hk x (Nat.lt_of_lt_of_le h1 hS.1)).trans (hS.2.1 x h1 h2), hS.2.2⟩
theorem R_new {C : String} {T : u_T} {ty : Nat → FieldType} {N ci index : Nat} {fs : List Value} (hc : vwCl[ci]? = some (C, T, N)) (hin : ∀ w ∈ u_ws C T N, w ∈ TW) (hty : ∀ k, k < N → parseFieldDescriptor (T k).2.2.1 = some (ty k)) (hcl : Cond.classLink y.cls index C ∈ TW) (hinst : Cond.instantiable C N ∈ TW) (hini : Cond.initialized C ∈ TW)
    (hfs : ∀ j, j < N → defaultValue (ty j) = vp_V fs j) (hfr : fs.map (tv G) = fs) (hlt : w.length < 1000000) (hk : k + 1 ≤ mc) (hn : n + N ≤ ms) (hdg : decode cc pc = .ok (.new index, 3))
    (kk : R G l y cc nL ret d mc ms Q (pc + 3) lv (.ref w.length :: st) (w ++ [.inr (ci, fs)]) (k + 1) (n + N)) : R G l y cc nL ret d mc ms Q pc lv st w k n := by
  intro p e Rm s m args below meth c Qt C0 hret H locs ls hH hS hl
  have hts := C0.2.2.2.2.1
  have hKn := C0.2.2.2.2.2.1.1.1 ci _ hc
  have hk3 := C0.2.2.2.2.2.2.2.2.1
  have hn3 := C0.2.2.2.2.2.2.2.2.2.1
  refine W.newcK C0.1 C0.2.1 C0.2.2.2.1 (hts _ hcl) (hts _ hinst) (hts _ hini) rfl hdg (by omega) (by omega) hKn.2.1 rfl fun H1 kC hkC e1 z1 o1 => ?_
  have h9 := kk p e Rm s m args below meth c Qt C0 hret H1 locs ls (hp_push hH hlt z1 o1 ?_) (S_push hS (by omega) o1) hl
  · rw [← ad_len hH hlt]
    exact h9
  · rw [ad_len hH hlt]
    show ∃ r : vw_C, _ ∧ _
    refine ⟨_, hc, ?_⟩
    show t_OB H.size _ _ _ H1 (vp_V (fs.map (tv G)))
    rw [hfr]
    exact (u_born ty hts hin hKn hkC e1 hty).to hfs
theorem newarr_go {a0 : vp_A} {kind : Nat} {atype : ArrayType} {ty : FieldType} (hkd : (tyG G)[kind]? = some (gA G kind, ty)) (hty : newarray.typeOf atype = ty) (hnm : ∀ (U : State) (cA : ClassId), va_RA U cA ty → U.vm.findClass ("[" ++ ty.toString) = some cA) (harr : Cond.arrayClass (newarray.typeOf atype) ∈ TW)
    {x : Int32} {N' : Nat} (ha : ∀ cA : ClassId, vp_cell cA (tc G a0) = arrV cA N' (fun _ => defaultValue ty)) (hx : ¬ x < 0) (hN : x.toNatClampNeg = N') (hbytes : N' * componentBytes ty ≤ 536870912) (hlt : w.length < 1000000) (hk : k + 1 ≤ mc) (hn : n + N' ≤ ms) (hdg : decode cc pc = .ok (.newarray atype, 2))
    (kk : R G l y cc nL ret d mc ms Q (pc + 2) lv (.ref w.length :: st) (w ++ [.inl (kind, a0)]) (k + 1) (n + N')) : R G l y cc nL ret d mc ms Q pc lv (.int x :: st) w k n := by
  intro p e Rm s m args below meth c Qt C0 hret H locs ls hH hS hl
  have hts := C0.2.2.2.2.1
  have hk3 := C0.2.2.2.2.2.2.2.2.1
  have hn3 := C0.2.2.2.2.2.2.2.2.2.1
  subst hty
  refine va_newaK C0.1 C0.2.1 (hts _ harr) rfl hdg rfl hx hN hbytes (by omega) (by omega) rfl fun H1 cA e1 z1 o1 hAr hNm => ?_
  have hcA : cA = gA G kind := Option.some.inj (hNm.symm.trans (hnm _ _ (C0.2.2.2.2.2.1.1.2 kind _ hkd).2))
  subst hcA
  have h9 := kk p e Rm s m args below meth c Qt C0 hret H1 locs ls (hp_push hH hlt z1 o1 ?_) (S_push hS (by omega) o1) hl
  · rw [← ad_len hH hlt]
    exact h9
  · rw [ad_len hH hlt]
    show H1[H.size]? = some (vp_cell (gA G kind) (tc G a0))
    rw [ha]
    exact e1
theorem R_newI {x : Int32} {N' : Nat} (hx : ¬ x < 0) (hN : x.toNatClampNeg = N') (hbytes : N' * 4 ≤ 536870912) (hlt : w.length < 1000000) (hk : k + 1 ≤ mc) (hn : n + N' ≤ ms) (hdg : decode cc pc = .ok (.newarray .int, 2))
    (kk : R G l y cc nL ret d mc ms Q (pc + 2) lv (.ref w.length :: st) (w ++ [.inl (0, N', .inl (fun _ => 0))]) (k + 1) (n + N')) : R G l y cc nL ret d mc ms Q pc lv (.int x :: st) w k n :=
  newarr_go (kind := 0) (a0 := (N', .inl (fun _ => 0))) rfl rfl (fun _ _ h => h) (TW_tb 96 (by decide +kernel) (by decide +kernel)) (fun cA => vp_cell_i cA N' _) hx hN hbytes hlt hk hn hdg kk
theorem R_newJ {x : Int32} {N' : Nat} (hx : ¬ x < 0) (hN : x.toNatClampNeg = N') (hbytes : N' * 8 ≤ 536870912) (hlt : w.length < 1000000) (hk : k + 1 ≤ mc) (hn : n + N' ≤ ms) (hdg : decode cc pc = .ok (.newarray .long, 2))
    (kk : R G l y cc nL ret d mc ms Q (pc + 2) lv (.ref w.length :: st) (w ++ [.inl (1, N', .inr (.inl (fun _ => 0)))]) (k + 1) (n + N')) : R G l y cc nL ret d mc ms Q pc lv (.int x :: st) w k n :=
  newarr_go (kind := 1) (a0 := (N', .inr (.inl (fun _ => 0)))) rfl rfl (fun _ _ h => h) (TW_tb 97 (by decide +kernel) (by decide +kernel)) (fun cA => vp_cell_l cA N' _) hx hN hbytes hlt hk hn hdg kk
theorem R_newZ {x : Int32} {N' : Nat} (hx : ¬ x < 0) (hN : x.toNatClampNeg = N') (hbytes : N' * 1 ≤ 536870912) (hlt : w.length < 1000000) (hk : k + 1 ≤ mc) (hn : n + N' ≤ ms) (hdg : decode cc pc = .ok (.newarray .boolean, 2))
    (kk : R G l y cc nL ret d mc ms Q (pc + 2) lv (.ref w.length :: st) (w ++ [.inl (2, N', .inl (fun _ => 0))]) (k + 1) (n + N')) : R G l y cc nL ret d mc ms Q pc lv (.int x :: st) w k n :=
  newarr_go (kind := 2) (a0 := (N', .inl (fun _ => 0))) rfl rfl (fun _ _ h => h) (TW_tb 150 (by decide +kernel) (by decide +kernel)) (fun cA => vp_cell_i cA N' _) hx hN hbytes hlt hk hn hdg kk
theorem R_objInit {index a : Nat} (hlink : Cond.methodLink y.cls index objectInit ∈ TW) (hdg : decode cc pc = .ok (.invokespecial index, 3)) (hd : 1 ≤ d) (hst : (st.map fun v => v.category).sum ≤ 8) (kk : R G l y cc nL ret d mc ms Q (pc + 3) lv st w k n) : R G l y cc nL ret d mc ms Q pc lv (.ref a :: st) w k n := by
  intro p e Rm s m args below meth c Qt C0 hret H locs ls hH hS hl
  have hts := C0.2.2.2.2.1
  have hf := C0.2.2.2.2.2.2.1
  have hlo := C0.2.2.2.2.2.2.2.1
  have hc := tv_cats G st
  exact W.objInit C0.1 C0.2.1 C0.2.2.2.1 (hts _ hlink) (hts _ (TW_tb 24 (by decide +kernel) (by decide +kernel))) (hts _ (TW_tb 25 (by decide +kernel) (by decide +kernel))) rfl (hl.1.trans C0.2.2.1.symm) rfl hdg (by omega) (by show 2 * 0 + _ + 12 ≤ _; omega) (kk p e Rm s m args below meth c Qt C0 hret H locs ls hH hS hl)
end MAKE
end
section
/-! rows of rows, Math, Strings -/
section MORE
variable {G : vG} {l : Launch} {y : MethodName} {cc : ByteArray} {nL : Nat} {ret : Option FieldType} {d mc ms : Nat} {Q : Option Value → VW → Prop} {pc : Nat} {lv : List (Option Value)} {st : List Value} {w : VW} {k n : Nat}
theorem hp_pushes {G : vG} {w : VW} {H H1 : Heap} {e0 e : VE} {N : Nat} (hH : hpOK G w H) (hlt : w.length + N < 1000000) (hz : H1.size = H.size + 1 + N) (hk : ∀ q : Nat, q < H.size → H1[q]? = H[q]?) (h0 : va_at (gD G) vwCl (H.size, te G e0) H1) (he : ∀ j : Nat, j < N → va_at (gD G) vwCl (H.size + 1 + j, te G e) H1) : hpOK G (w ++ e0 :: List.replicate N e) H1 := by
  refine ⟨by rw [hz, hH.1, List.length_append, List.length_cons, List.length_replicate]; omega, by rw [List.length_append, List.length_cons, List.length_replicate]; omega, ?_⟩
  intro i q hq
  obtain ⟨e1, h1, rfl⟩ := rw_inv hq
  by_cases hi : i < w.length
  · rw [List.getElem?_append_left hi] at h1
    have h2 := hH.2.2 i _ (rw_get h1)
    exact h2.kept (hk _ h2.lt)
  · rw [List.getElem?_append_right (by omega)] at h1
    have hil : i < 1000000 := by
      have h5 := (List.getElem?_eq_some_iff.mp h1).1
      rw [List.length_cons, List.length_replicate] at h5
      omega
    rw [ad_lt hil]
    by_cases h3 : i - w.length = 0
    · rw [h3] at h1
      cases h1
      rw [show gz G + i = H.size by rw [hH.1]; omega]
      exact h0
    · obtain ⟨j, hj⟩ : ∃ j, i - w.length = j + 1 := ⟨i - w.length - 1, by omega⟩
      rw [hj, List.getElem?_cons_succ] at h1
      have h5 := (List.getElem?_eq_some_iff.mp h1).1
      rw [List.length_replicate] at h5
      have h6 : e1 = e := by
        rw [List.getElem?_replicate, if_pos h5] at h1
        exact (Option.some.inj h1).symm
      subst h6
      rw [show gz G + i = H.size + 1 + j by rw [hH.1]; omega]
      exact he j h5
theorem R_mna {index : Nat} {x z : Int32} {N K : Nat} (hcl : Cond.classLink y.cls index "[[I" ∈ TW) (hN : x.toNatClampNeg = N) (hK : z.toNatClampNeg = K) (hx : ¬ x < 0) (hz : ¬ z < 0) (hb1 : N * 4 ≤ 536870912) (hb2 : K * 4 ≤ 536870912) (hlt : w.length + N < 1000000) (hk : k + 1 + N ≤ mc) (hn : n + N + N * K ≤ ms) (hdg : decode cc pc = .ok (.multianewarray index 2, 4))
    (kk : R G l y cc nL ret d mc ms Q (pc + 4) lv (.ref w.length :: st) (w ++ .inl (3, N, .inr (.inr (.inr (.inr (fun i => if i < N then some (w.length + 1 + i) else none))))) :: List.replicate N (.inl (0, K, .inl (fun _ => 0)))) (k + 1 + N) (n + N + N * K)) : R G l y cc nL ret d mc ms Q pc lv (.int z :: .int x :: st) w k n := by
  intro p e Rm s m args below meth c Qt C0 hret H locs ls hH hS hl
  subst hN
  subst hK
  have hts := C0.2.2.2.2.1
  have hk3 := C0.2.2.2.2.2.2.2.2.1
  have hn3 := C0.2.2.2.2.2.2.2.2.2.1
  have hK9 := C0.2.2.2.2.2.1.1
  have hA3 : s.vm.findClass ("[" ++ (FieldType.array .int).toString) = some (gA G 3) := (hK9.2 3 _ rfl).2
  have hA0 : s.vm.findClass ("[" ++ FieldType.int.toString) = some (gA G 0) := (hK9.2 0 _ rfl).2
  have hAO : (Cond.arrayOver (.array .int)).before args s = true := Jvm.Stand.arrayOver_alikeB (Vm.Alike.refl s.vm) C0.2.2.2.2.2.1.2.2.2.2.2.2.2.2.2
  intro T hT X
  obtain ⟨vm₁, cA, comp, -, fA, fC, -, -, X', step⟩ := X.multianewarray2F C0.1 C0.2.2.2.1 (own := y.cls) (index := index) (ty := .int) (hts _ hcl) hAO (hts _ (TW_tb 96 (by decide +kernel) (by decide +kernel))) (g := F0 m pc ls ((Value.int z :: .int x :: st).map (tv G))) rfl (by rw [C0.2.1]; exact hdg) rfl hx hz hb1 hb2 (by omega) rfl rfl (by omega) (by omega)
  have ec : cA = gA G 3 := Option.some.inj (fA.symm.trans hA3)
  have ec0 : comp = gA G 0 := Option.some.inj (fC.symm.trans hA0)
  subst ec
  subst ec0
  have hTh : (T.setVm vm₁).heap = H := hT
  obtain ⟨f1, f2, -, -⟩ := Jvm.Free.Multi.fill_facts (T.setVm vm₁) (gA G 3) (gA G 0) x.toNatClampNeg z.toNatClampNeg (defaultValue .int) x.toNatClampNeg
  have hold : ∀ q : Nat, q < H.size → (Jvm.Free.Multi.fill (T.setVm vm₁) (gA G 3) (gA G 0) x.toNatClampNeg z.toNatClampNeg (defaultValue .int) x.toNatClampNeg).heap[q]? = H[q]? := fun q hq => by
    have h9 := Jvm.Free.Multi.fill_old (T.setVm vm₁) (gA G 3) (gA G 0) x.toNatClampNeg z.toNatClampNeg (defaultValue .int) (a := q) (by rw [hTh]; exact hq) x.toNatClampNeg
    rw [hTh] at h9
    exact h9
  have hrow := Jvm.Free.Multi.fill_inner (T.setVm vm₁) (gA G 3) (gA G 0) x.toNatClampNeg z.toNatClampNeg (defaultValue .int) x.toNatClampNeg
  rw [hTh] at f1 f2 hrow
  generalize hF : Jvm.Free.Multi.fill (T.setVm vm₁) (gA G 3) (gA G 0) x.toNatClampNeg z.toNatClampNeg (defaultValue .int) x.toNatClampNeg = F at *
  have hTs : T.heap.size = H.size := by rw [hT]
  rw [hTs] at step
  have hwl : ad G w.length = H.size := ad_len hH (by omega)
  have h9 := kk p e Rm s m args below meth c Qt C0 hret F.heap locs ls (hp_pushes hH hlt f1 hold ?_ ?_) (S_push hS (by omega) hold) hl F rfl X'
  · obtain ⟨t, a1, b1⟩ := h9
    refine ⟨t, step t ?_, b1⟩
    rw [← hwl]
    exact a1
  · show F.heap[H.size]? = some (vp_cell (gA G 3) (x.toNatClampNeg, .inr (.inr (.inr (.inr (fun i => (if i < x.toNatClampNeg then some (w.length + 1 + i) else none).map (ad G)))))))
    rw [f2, vr_outer]
    refine congrArg some ?_
    rw [vp_cell_q]
    refine congrArg (arrV _ _) (funext fun j => ?_)
    by_cases h : j < x.toNatClampNeg
    · rw [if_pos h, if_pos h]
      show va_rf (some (H.size + 1 + j)) = va_rf (some (ad G (w.length + 1 + j)))
      rw [ad_lt (by omega), hH.1]
      congr 2
      omega
    · rw [if_neg h, if_neg h]
      rfl
  · intro j hj
    show F.heap[H.size + 1 + j]? = some (vp_cell (gA G 0) (z.toNatClampNeg, .inl (fun _ => 0)))
    rw [hrow j hj, vp_cell_i, ← arrV_new]
    rfl
theorem R_mmax {index : Nat} {a b : Int32} (hlink : Cond.methodLink y.cls index Lib.Math.max.name ∈ TW) (hdg : decode cc pc = .ok (.invokestatic index, 3)) (hd : 1 ≤ d) (hst : (st.map fun v => v.category).sum ≤ 8) (hk : k ≤ mc) (hn : n ≤ ms) (kk : R G l y cc nL ret d mc ms Q (pc + 3) lv (.int (if a < b then b else a) :: st) w k n) : R G l y cc nL ret d mc ms Q pc lv (.int b :: .int a :: st) w k n := by
  intro p e Rm s m args below meth c Qt C0 hret H locs ls hH hS hl
  have hts := C0.2.2.2.2.1
  have hf := C0.2.2.2.2.2.2.1
  have hlo := C0.2.2.2.2.2.2.2.1
  have hc := tv_cats G st
  have hk3 := C0.2.2.2.2.2.2.2.2.1
  have hn3 := C0.2.2.2.2.2.2.2.2.2.1
  exact va_mmax C0.1 C0.2.1 (C0.2.2.1.trans hl.1.symm) C0.2.2.2.1 (hts _ hlink) (hts _ (TW_tb 374 (by decide +kernel) (by decide +kernel))) (hts _ (TW_tb 11 (by decide +kernel) (by decide +kernel))) (hts _ (TW_tb 375 (by decide +kernel) (by decide +kernel))) (by omega) (by omega) (by omega) (by omega) hdg (kk p e Rm s m args below meth c Qt C0 hret H locs ls hH hS hl)
theorem R_mmin {index : Nat} {a b : Int32} (hlink : Cond.methodLink y.cls index Lib.Math.min.name ∈ TW) (hdg : decode cc pc = .ok (.invokestatic index, 3)) (hd : 1 ≤ d) (hst : (st.map fun v => v.category).sum ≤ 8) (hk : k ≤ mc) (hn : n ≤ ms) (kk : R G l y cc nL ret d mc ms Q (pc + 3) lv (.int (if b < a then b else a) :: st) w k n) : R G l y cc nL ret d mc ms Q pc lv (.int b :: .int a :: st) w k n := by
  intro p e Rm s m args below meth c Qt C0 hret H locs ls hH hS hl
  have hts := C0.2.2.2.2.1
  have hf := C0.2.2.2.2.2.2.1
  have hlo := C0.2.2.2.2.2.2.2.1
  have hc := tv_cats G st
  have hk3 := C0.2.2.2.2.2.2.2.2.1
  have hn3 := C0.2.2.2.2.2.2.2.2.2.1
  exact va_mmin C0.1 C0.2.1 (C0.2.2.1.trans hl.1.symm) C0.2.2.2.1 (hts _ hlink) (hts _ (TW_tb 377 (by decide +kernel) (by decide +kernel))) (hts _ (TW_tb 11 (by decide +kernel) (by decide +kernel))) (hts _ (TW_tb 378 (by decide +kernel) (by decide +kernel))) (by omega) (by omega) (by omega) (by omega) hdg (kk p e Rm s m args below meth c Qt C0 hret H locs ls hH hS hl)
theorem R_mabs {index : Nat} {a : Int32} (hlink : Cond.methodLink y.cls index Lib.Math.abs.name ∈ TW) (hdg : decode cc pc = .ok (.invokestatic index, 3)) (hd : 1 ≤ d) (hst : (st.map fun v => v.category).sum ≤ 8) (hk : k ≤ mc) (hn : n ≤ ms) (kk : R G l y cc nL ret d mc ms Q (pc + 3) lv (.int (if 0 ≤ a then a else 0 - a) :: st) w k n) : R G l y cc nL ret d mc ms Q pc lv (.int a :: st) w k n := by
  intro p e Rm s m args below meth c Qt C0 hret H locs ls hH hS hl
  have hts := C0.2.2.2.2.1
  have hf := C0.2.2.2.2.2.2.1
  have hlo := C0.2.2.2.2.2.2.2.1
  have hc := tv_cats G st
  have hk3 := C0.2.2.2.2.2.2.2.2.1
  have hn3 := C0.2.2.2.2.2.2.2.2.2.1
  exact va_mabs C0.1 C0.2.1 (C0.2.2.1.trans hl.1.symm) C0.2.2.2.1 (hts _ hlink) (hts _ (TW_tb 690 (by decide +kernel) (by decide +kernel))) (hts _ (TW_tb 11 (by decide +kernel) (by decide +kernel))) (hts _ (TW_tb 691 (by decide +kernel) (by decide +kernel))) (by omega) (by omega) (by omega) (by omega) hdg (kk p e Rm s m args below meth c Qt C0 hret H locs ls hH hS hl)
/-- a text's place: 1000000 + i; its bytes' place: 1000100 + i -/
theorem R_ldcS {i : Nat} {q : Nat × String} (hq : cpS[i]? = some q) (hy : y.cls = "ViewCards$Reader") (hdg : decode cc pc = .ok (.ldc q.1, 2)) (hi : ad G (1000000 + i) = gK G i) (kk : R G l y cc nL ret d mc ms Q (pc + 2) lv (.ref (1000000 + i) :: st) w k n) : R G l y cc nL ret d mc ms Q pc lv st w k n := by
  intro p e Rm s m args below meth c Qt C0 hret H locs ls hH hS hl
  obtain ⟨-, -, hZ, -⟩ := C0.2.2.2.2.2.1
  have h9 := kk p e Rm s m args below meth c Qt C0 hret H locs ls hH hS hl
  refine va_ldcS C0.1 C0.2.1 C0.2.2.2.1 (tx := q.2) (q := gK G i) (by rw [hy]; exact hZ i q hq) hdg ?_
  rw [← hi]
  exact h9
theorem adS (G : vG) {i : Nat} (hi : i < 100) : ad G (1000000 + i) = gK G i := by
  unfold ad
  rw [if_neg (by omega), if_pos (by omega), Nat.add_sub_cancel_left]
theorem adT (G : vG) {i : Nat} (hi : i < 100) : ad G (1000100 + i) = gV G i := by
  unfold ad
  rw [if_neg (by omega), if_neg (by omega), if_pos (by omega), Nat.add_sub_cancel_left]
end MORE
end
section
/-! the words by their places; a rule for each link of a field or a method -/
def QI (post : Int32 → VW → Prop) : Option Value → VW → Prop := fun r w => ∃ x, r = some (.int x) ∧ post x w
def QL (post : Int64 → VW → Prop) : Option Value → VW → Prop := fun r w => ∃ x, r = some (.long x) ∧ post x w
def QV (post : VW → Prop) : Option Value → VW → Prop := fun r w => r = none ∧ post w
theorem inX0 : ∀ w ∈ u_ws RX0 TX0 13, w ∈ TW := by decide +kernel
theorem inX1 : ∀ w ∈ u_ws RX1 TX1 13, w ∈ TW := by decide +kernel
theorem inX2 : ∀ w ∈ u_ws RX2 TX2 4, w ∈ TW := by decide +kernel
theorem inX3 : ∀ w ∈ u_ws RX3 TX3 5, w ∈ TW := by decide +kernel
theorem inX4 : ∀ w ∈ u_ws RX4 TX4 7, w ∈ TW := by decide +kernel
theorem inX5 : ∀ w ∈ u_ws RX5 TX5 5, w ∈ TW := by decide +kernel
theorem inX6 : ∀ w ∈ u_ws RX6 TX6 5, w ∈ TW := by decide +kernel
theorem inX7 : ∀ w ∈ u_ws RX7 TX7 3, w ∈ TW := by decide +kernel
theorem inX8 : ∀ w ∈ u_ws RX8 TX8 10, w ∈ TW := by decide +kernel
theorem inX9 : ∀ w ∈ u_ws RX9 TX9 49, w ∈ TW := by decide +kernel
theorem w_32 : Cond.fieldLink RX0 9 RX0 "list" "[I" ∈ TW := TW_tb 32 (by decide +kernel) (by decide +kernel)
theorem w_33 : Cond.fieldLink RX3 85 RX0 "list" "[I" ∈ TW := TW_tb 33 (by decide +kernel) (by decide +kernel)
theorem w_34 : Cond.fieldLink RX0 15 RX0 "publisher" "[I" ∈ TW := TW_tb 34 (by decide +kernel) (by decide +kernel)
theorem w_35 : Cond.fieldLink RX5 29 RX0 "publisher" "[I" ∈ TW := TW_tb 35 (by decide +kernel) (by decide +kernel)
theorem w_36 : Cond.fieldLink RX1 107 RX0 "publisher" "[I" ∈ TW := TW_tb 36 (by decide +kernel) (by decide +kernel)
theorem w_37 : Cond.fieldLink RX3 88 RX0 "publisher" "[I" ∈ TW := TW_tb 37 (by decide +kernel) (by decide +kernel)
theorem w_38 : Cond.fieldLink RX8 172 RX0 "publisher" "[I" ∈ TW := TW_tb 38 (by decide +kernel) (by decide +kernel)
theorem w_39 : Cond.fieldLink RX0 18 RX0 "number" "[I" ∈ TW := TW_tb 39 (by decide +kernel) (by decide +kernel)
theorem w_40 : Cond.fieldLink RX5 33 RX0 "number" "[I" ∈ TW := TW_tb 40 (by decide +kernel) (by decide +kernel)
theorem w_41 : Cond.fieldLink RX1 110 RX0 "number" "[I" ∈ TW := TW_tb 41 (by decide +kernel) (by decide +kernel)
theorem w_42 : Cond.fieldLink RX3 82 RX0 "number" "[I" ∈ TW := TW_tb 42 (by decide +kernel) (by decide +kernel)
theorem w_43 : Cond.fieldLink RX8 178 RX0 "number" "[I" ∈ TW := TW_tb 43 (by decide +kernel) (by decide +kernel)
theorem w_44 : Cond.fieldLink RX0 21 RX0 "backOf" "[I" ∈ TW := TW_tb 44 (by decide +kernel) (by decide +kernel)
theorem w_45 : Cond.fieldLink RX1 85 RX0 "backOf" "[I" ∈ TW := TW_tb 45 (by decide +kernel) (by decide +kernel)
theorem w_46 : Cond.fieldLink RX3 91 RX0 "backOf" "[I" ∈ TW := TW_tb 46 (by decide +kernel) (by decide +kernel)
theorem w_47 : Cond.fieldLink RX8 316 RX0 "backOf" "[I" ∈ TW := TW_tb 47 (by decide +kernel) (by decide +kernel)
theorem w_48 : Cond.fieldLink RX0 24 RX0 "picture" "[J" ∈ TW := TW_tb 48 (by decide +kernel) (by decide +kernel)
theorem w_49 : Cond.fieldLink RX3 53 RX0 "picture" "[J" ∈ TW := TW_tb 49 (by decide +kernel) (by decide +kernel)
theorem w_50 : Cond.fieldLink RX0 28 RX0 "sky" "[I" ∈ TW := TW_tb 50 (by decide +kernel) (by decide +kernel)
theorem w_51 : Cond.fieldLink RX3 40 RX0 "sky" "[I" ∈ TW := TW_tb 51 (by decide +kernel) (by decide +kernel)
theorem w_52 : Cond.fieldLink RX0 31 RX0 "posted" "[I" ∈ TW := TW_tb 52 (by decide +kernel) (by decide +kernel)
theorem w_53 : Cond.fieldLink RX1 90 RX0 "posted" "[I" ∈ TW := TW_tb 53 (by decide +kernel) (by decide +kernel)
theorem w_54 : Cond.fieldLink RX0 34 RX0 "toldOn" "[I" ∈ TW := TW_tb 54 (by decide +kernel) (by decide +kernel)
theorem w_55 : Cond.fieldLink RX0 37 RX0 "word" "[J" ∈ TW := TW_tb 55 (by decide +kernel) (by decide +kernel)
theorem w_56 : Cond.fieldLink RX8 101 RX0 "word" "[J" ∈ TW := TW_tb 56 (by decide +kernel) (by decide +kernel)
theorem w_57 : Cond.fieldLink RX3 75 RX0 "word" "[J" ∈ TW := TW_tb 57 (by decide +kernel) (by decide +kernel)
theorem w_58 : Cond.fieldLink RX0 40 RX0 "letters" "[I" ∈ TW := TW_tb 58 (by decide +kernel) (by decide +kernel)
theorem w_59 : Cond.fieldLink RX8 105 RX0 "letters" "[I" ∈ TW := TW_tb 59 (by decide +kernel) (by decide +kernel)
theorem w_60 : Cond.fieldLink RX3 72 RX0 "letters" "[I" ∈ TW := TW_tb 60 (by decide +kernel) (by decide +kernel)
theorem w_61 : Cond.fieldLink RX0 47 RX0 "size" "I" ∈ TW := TW_tb 61 (by decide +kernel) (by decide +kernel)
theorem w_62 : Cond.fieldLink RX3 31 RX0 "size" "I" ∈ TW := TW_tb 62 (by decide +kernel) (by decide +kernel)
theorem w_63 : Cond.fieldLink RX5 19 RX0 "size" "I" ∈ TW := TW_tb 63 (by decide +kernel) (by decide +kernel)
theorem w_64 : Cond.fieldLink RX8 76 RX0 "size" "I" ∈ TW := TW_tb 64 (by decide +kernel) (by decide +kernel)
theorem w_65 : Cond.fieldLink RX0 50 RX0 "theDay" "I" ∈ TW := TW_tb 65 (by decide +kernel) (by decide +kernel)
theorem w_66 : Cond.fieldLink RX8 109 RX0 "theDay" "I" ∈ TW := TW_tb 66 (by decide +kernel) (by decide +kernel)
theorem w_67 : Cond.fieldLink RX0 43 RX0 "asOf" "I" ∈ TW := TW_tb 67 (by decide +kernel) (by decide +kernel)
theorem w_68 : Cond.fieldLink RX8 115 RX0 "asOf" "I" ∈ TW := TW_tb 68 (by decide +kernel) (by decide +kernel)
theorem w_106 : Cond.fieldLink RX3 27 RX3 "album" "LViewCards$Album;" ∈ TW := TW_tb 106 (by decide +kernel) (by decide +kernel)
theorem w_107 : Cond.fieldLink RX3 11 RX3 "otherwise" "[[I" ∈ TW := TW_tb 107 (by decide +kernel) (by decide +kernel)
theorem w_108 : Cond.fieldLink RX8 122 RX3 "otherwise" "[[I" ∈ TW := TW_tb 108 (by decide +kernel) (by decide +kernel)
theorem w_109 : Cond.fieldLink RX3 16 RX3 "changes" "[[I" ∈ TW := TW_tb 109 (by decide +kernel) (by decide +kernel)
theorem w_110 : Cond.fieldLink RX8 138 RX3 "changes" "[[I" ∈ TW := TW_tb 110 (by decide +kernel) (by decide +kernel)
theorem w_111 : Cond.fieldLink RX3 19 RX3 "row" "[I" ∈ TW := TW_tb 111 (by decide +kernel) (by decide +kernel)
theorem w_112 : Cond.fieldLink RX3 23 RX3 "slack" "I" ∈ TW := TW_tb 112 (by decide +kernel) (by decide +kernel)
theorem w_113 : Cond.fieldLink RX8 112 RX3 "slack" "I" ∈ TW := TW_tb 113 (by decide +kernel) (by decide +kernel)
theorem w_131 : Cond.fieldLink RX5 15 RX5 "album" "LViewCards$Album;" ∈ TW := TW_tb 131 (by decide +kernel) (by decide +kernel)
theorem w_132 : Cond.fieldLink RX5 9 RX5 "isBorne" "[Z" ∈ TW := TW_tb 132 (by decide +kernel) (by decide +kernel)
theorem w_133 : Cond.fieldLink RX5 36 RX5 "size" "I" ∈ TW := TW_tb 133 (by decide +kernel) (by decide +kernel)
theorem w_134 : Cond.fieldLink RX8 184 RX5 "size" "I" ∈ TW := TW_tb 134 (by decide +kernel) (by decide +kernel)
theorem w_135 : Cond.fieldLink RX5 37 RX5 "least" "I" ∈ TW := TW_tb 135 (by decide +kernel) (by decide +kernel)
theorem w_136 : Cond.fieldLink RX8 185 RX5 "least" "I" ∈ TW := TW_tb 136 (by decide +kernel) (by decide +kernel)
theorem w_137 : Cond.fieldLink RX5 40 RX5 "greatest" "I" ∈ TW := TW_tb 137 (by decide +kernel) (by decide +kernel)
theorem w_138 : Cond.fieldLink RX8 188 RX5 "greatest" "I" ∈ TW := TW_tb 138 (by decide +kernel) (by decide +kernel)
theorem w_164 : Cond.fieldLink RX7 9 RX7 "from" "[I" ∈ TW := TW_tb 164 (by decide +kernel) (by decide +kernel)
theorem w_165 : Cond.fieldLink RX1 133 RX7 "from" "[I" ∈ TW := TW_tb 165 (by decide +kernel) (by decide +kernel)
theorem w_166 : Cond.fieldLink RX8 253 RX7 "from" "[I" ∈ TW := TW_tb 166 (by decide +kernel) (by decide +kernel)
theorem w_167 : Cond.fieldLink RX7 15 RX7 "to" "[I" ∈ TW := TW_tb 167 (by decide +kernel) (by decide +kernel)
theorem w_168 : Cond.fieldLink RX1 136 RX7 "to" "[I" ∈ TW := TW_tb 168 (by decide +kernel) (by decide +kernel)
theorem w_169 : Cond.fieldLink RX8 258 RX7 "to" "[I" ∈ TW := TW_tb 169 (by decide +kernel) (by decide +kernel)
theorem w_170 : Cond.fieldLink RX7 18 RX7 "isChanged" "Z" ∈ TW := TW_tb 170 (by decide +kernel) (by decide +kernel)
theorem w_171 : Cond.fieldLink RX1 126 RX7 "isChanged" "Z" ∈ TW := TW_tb 171 (by decide +kernel) (by decide +kernel)
theorem w_179 : Cond.fieldLink RX1 48 RX1 "album" "LViewCards$Album;" ∈ TW := TW_tb 179 (by decide +kernel) (by decide +kernel)
theorem w_180 : Cond.fieldLink RX1 52 RX1 "kin" "LViewCards$Kin;" ∈ TW := TW_tb 180 (by decide +kernel) (by decide +kernel)
theorem w_181 : Cond.fieldLink RX1 9 RX1 "featureFrom" "[I" ∈ TW := TW_tb 181 (by decide +kernel) (by decide +kernel)
theorem w_182 : Cond.fieldLink RX8 218 RX1 "featureFrom" "[I" ∈ TW := TW_tb 182 (by decide +kernel) (by decide +kernel)
theorem w_183 : Cond.fieldLink RX1 15 RX1 "featureTo" "[I" ∈ TW := TW_tb 183 (by decide +kernel) (by decide +kernel)
theorem w_184 : Cond.fieldLink RX8 221 RX1 "featureTo" "[I" ∈ TW := TW_tb 184 (by decide +kernel) (by decide +kernel)
theorem w_185 : Cond.fieldLink RX1 18 RX1 "backFrom" "[I" ∈ TW := TW_tb 185 (by decide +kernel) (by decide +kernel)
theorem w_186 : Cond.fieldLink RX8 227 RX1 "backFrom" "[I" ∈ TW := TW_tb 186 (by decide +kernel) (by decide +kernel)
theorem w_187 : Cond.fieldLink RX1 21 RX1 "backTo" "[I" ∈ TW := TW_tb 187 (by decide +kernel) (by decide +kernel)
theorem w_188 : Cond.fieldLink RX8 230 RX1 "backTo" "[I" ∈ TW := TW_tb 188 (by decide +kernel) (by decide +kernel)
theorem w_189 : Cond.fieldLink RX1 26 RX1 "showing" "[[I" ∈ TW := TW_tb 189 (by decide +kernel) (by decide +kernel)
theorem w_190 : Cond.fieldLink RX8 224 RX1 "showing" "[[I" ∈ TW := TW_tb 190 (by decide +kernel) (by decide +kernel)
theorem w_191 : Cond.fieldLink RX1 29 RX1 "laterOne" "[I" ∈ TW := TW_tb 191 (by decide +kernel) (by decide +kernel)
theorem w_192 : Cond.fieldLink RX8 236 RX1 "laterOne" "[I" ∈ TW := TW_tb 192 (by decide +kernel) (by decide +kernel)
theorem w_193 : Cond.fieldLink RX1 32 RX1 "earlierOne" "[I" ∈ TW := TW_tb 193 (by decide +kernel) (by decide +kernel)
theorem w_194 : Cond.fieldLink RX8 239 RX1 "earlierOne" "[I" ∈ TW := TW_tb 194 (by decide +kernel) (by decide +kernel)
theorem w_195 : Cond.fieldLink RX1 139 RX1 "laters" "I" ∈ TW := TW_tb 195 (by decide +kernel) (by decide +kernel)
theorem w_196 : Cond.fieldLink RX8 233 RX1 "laters" "I" ∈ TW := TW_tb 196 (by decide +kernel) (by decide +kernel)
theorem w_197 : Cond.fieldLink RX1 38 RX1 "taken" "LViewCards$Spans;" ∈ TW := TW_tb 197 (by decide +kernel) (by decide +kernel)
theorem w_198 : Cond.fieldLink RX8 249 RX1 "taken" "LViewCards$Spans;" ∈ TW := TW_tb 198 (by decide +kernel) (by decide +kernel)
theorem w_199 : Cond.fieldLink RX1 42 RX1 "published" "LViewCards$Spans;" ∈ TW := TW_tb 199 (by decide +kernel) (by decide +kernel)
theorem w_200 : Cond.fieldLink RX8 261 RX1 "published" "LViewCards$Spans;" ∈ TW := TW_tb 200 (by decide +kernel) (by decide +kernel)
theorem w_201 : Cond.fieldLink RX1 45 RX1 "leader" "[I" ∈ TW := TW_tb 201 (by decide +kernel) (by decide +kernel)
theorem w_202 : Cond.fieldLink RX8 246 RX1 "leader" "[I" ∈ TW := TW_tb 202 (by decide +kernel) (by decide +kernel)
theorem w_237 : Cond.fieldLink RX2 9 RX2 "cellOf" "[I" ∈ TW := TW_tb 237 (by decide +kernel) (by decide +kernel)
theorem w_238 : Cond.fieldLink RX8 264 RX2 "cellOf" "[I" ∈ TW := TW_tb 238 (by decide +kernel) (by decide +kernel)
theorem w_239 : Cond.fieldLink RX2 23 RX2 "walled" "J" ∈ TW := TW_tb 239 (by decide +kernel) (by decide +kernel)
theorem w_240 : Cond.fieldLink RX8 267 RX2 "walled" "J" ∈ TW := TW_tb 240 (by decide +kernel) (by decide +kernel)
theorem w_241 : Cond.fieldLink RX2 17 RX2 "seen" "[[I" ∈ TW := TW_tb 241 (by decide +kernel) (by decide +kernel)
theorem w_242 : Cond.fieldLink RX8 277 RX2 "seen" "[[I" ∈ TW := TW_tb 242 (by decide +kernel) (by decide +kernel)
theorem w_243 : Cond.fieldLink RX2 20 RX2 "inView" "[I" ∈ TW := TW_tb 243 (by decide +kernel) (by decide +kernel)
theorem w_244 : Cond.fieldLink RX8 274 RX2 "inView" "[I" ∈ TW := TW_tb 244 (by decide +kernel) (by decide +kernel)
theorem w_260 : Cond.fieldLink RX6 9 RX6 "text" "[I" ∈ TW := TW_tb 260 (by decide +kernel) (by decide +kernel)
theorem w_261 : Cond.fieldLink RX8 292 RX6 "text" "[I" ∈ TW := TW_tb 261 (by decide +kernel) (by decide +kernel)
theorem w_262 : Cond.fieldLink RX6 43 RX6 "size" "I" ∈ TW := TW_tb 262 (by decide +kernel) (by decide +kernel)
theorem w_263 : Cond.fieldLink RX8 291 RX6 "size" "I" ∈ TW := TW_tb 263 (by decide +kernel) (by decide +kernel)
theorem w_264 : Cond.fieldLink RX6 40 RX6 "start" "I" ∈ TW := TW_tb 264 (by decide +kernel) (by decide +kernel)
theorem w_265 : Cond.fieldLink RX6 21 RX6 "end" "I" ∈ TW := TW_tb 265 (by decide +kernel) (by decide +kernel)
theorem w_266 : Cond.fieldLink RX6 24 RX6 "wrongAt" "I" ∈ TW := TW_tb 266 (by decide +kernel) (by decide +kernel)
theorem w_284 : Cond.fieldLink RX4 9 RX4 "publisher" "[I" ∈ TW := TW_tb 284 (by decide +kernel) (by decide +kernel)
theorem w_285 : Cond.fieldLink RX6 65 RX4 "publisher" "[I" ∈ TW := TW_tb 285 (by decide +kernel) (by decide +kernel)
theorem w_286 : Cond.fieldLink RX4 15 RX4 "first" "[I" ∈ TW := TW_tb 286 (by decide +kernel) (by decide +kernel)
theorem w_287 : Cond.fieldLink RX6 68 RX4 "first" "[I" ∈ TW := TW_tb 287 (by decide +kernel) (by decide +kernel)
theorem w_288 : Cond.fieldLink RX4 18 RX4 "last" "[I" ∈ TW := TW_tb 288 (by decide +kernel) (by decide +kernel)
theorem w_289 : Cond.fieldLink RX6 71 RX4 "last" "[I" ∈ TW := TW_tb 289 (by decide +kernel) (by decide +kernel)
theorem w_290 : Cond.fieldLink RX4 21 RX4 "isOfDays" "[Z" ∈ TW := TW_tb 290 (by decide +kernel) (by decide +kernel)
theorem w_291 : Cond.fieldLink RX6 74 RX4 "isOfDays" "[Z" ∈ TW := TW_tb 291 (by decide +kernel) (by decide +kernel)
theorem w_292 : Cond.fieldLink RX1 103 RX4 "isOfDays" "[Z" ∈ TW := TW_tb 292 (by decide +kernel) (by decide +kernel)
theorem w_293 : Cond.fieldLink RX8 300 RX4 "isOfDays" "[Z" ∈ TW := TW_tb 293 (by decide +kernel) (by decide +kernel)
theorem w_294 : Cond.fieldLink RX4 25 RX4 "low" "[I" ∈ TW := TW_tb 294 (by decide +kernel) (by decide +kernel)
theorem w_295 : Cond.fieldLink RX6 78 RX4 "low" "[I" ∈ TW := TW_tb 295 (by decide +kernel) (by decide +kernel)
theorem w_296 : Cond.fieldLink RX1 117 RX4 "low" "[I" ∈ TW := TW_tb 296 (by decide +kernel) (by decide +kernel)
theorem w_297 : Cond.fieldLink RX8 307 RX4 "low" "[I" ∈ TW := TW_tb 297 (by decide +kernel) (by decide +kernel)
theorem w_298 : Cond.fieldLink RX4 28 RX4 "high" "[I" ∈ TW := TW_tb 298 (by decide +kernel) (by decide +kernel)
theorem w_299 : Cond.fieldLink RX6 81 RX4 "high" "[I" ∈ TW := TW_tb 299 (by decide +kernel) (by decide +kernel)
theorem w_300 : Cond.fieldLink RX1 123 RX4 "high" "[I" ∈ TW := TW_tb 300 (by decide +kernel) (by decide +kernel)
theorem w_301 : Cond.fieldLink RX8 310 RX4 "high" "[I" ∈ TW := TW_tb 301 (by decide +kernel) (by decide +kernel)
theorem w_302 : Cond.fieldLink RX6 15 RX4 "size" "I" ∈ TW := TW_tb 302 (by decide +kernel) (by decide +kernel)
theorem w_303 : Cond.fieldLink RX1 97 RX4 "size" "I" ∈ TW := TW_tb 303 (by decide +kernel) (by decide +kernel)
theorem w_304 : Cond.fieldLink RX8 299 RX4 "size" "I" ∈ TW := TW_tb 304 (by decide +kernel) (by decide +kernel)
theorem w_320 : Cond.fieldLink RX8 10 RX8 "album" "LViewCards$Album;" ∈ TW := TW_tb 320 (by decide +kernel) (by decide +kernel)
theorem w_321 : Cond.fieldLink RX8 21 RX8 "kin" "LViewCards$Kin;" ∈ TW := TW_tb 321 (by decide +kernel) (by decide +kernel)
theorem w_322 : Cond.fieldLink RX8 28 RX8 "numbers" "LViewCards$Numbers;" ∈ TW := TW_tb 322 (by decide +kernel) (by decide +kernel)
theorem w_323 : Cond.fieldLink RX8 37 RX8 "dating" "LViewCards$Dating;" ∈ TW := TW_tb 323 (by decide +kernel) (by decide +kernel)
theorem w_324 : Cond.fieldLink RX8 44 RX8 "ground" "LViewCards$Ground;" ∈ TW := TW_tb 324 (by decide +kernel) (by decide +kernel)
theorem w_325 : Cond.fieldLink RX8 51 RX8 "reader" "LViewCards$Reader;" ∈ TW := TW_tb 325 (by decide +kernel) (by decide +kernel)
theorem w_326 : Cond.fieldLink RX8 58 RX8 "noLines" "LViewCards$Lines;" ∈ TW := TW_tb 326 (by decide +kernel) (by decide +kernel)
theorem w_327 : Cond.fieldLink RX8 62 RX8 "lines" "LViewCards$Lines;" ∈ TW := TW_tb 327 (by decide +kernel) (by decide +kernel)
theorem w_328 : Cond.fieldLink RX8 65 RX8 "draft" "LViewCards$Lines;" ∈ TW := TW_tb 328 (by decide +kernel) (by decide +kernel)
theorem w_329 : Cond.fieldLink RX8 68 RX8 "base" "I" ∈ TW := TW_tb 329 (by decide +kernel) (by decide +kernel)
theorem w_834 : Cond.fieldLink RX9 117 RX9 "cards" "I" ∈ TW := TW_tb 834 (by decide +kernel) (by decide +kernel)
theorem w_835 : Cond.fieldLink RX9 7 RX9 "listOf" "[I" ∈ TW := TW_tb 835 (by decide +kernel) (by decide +kernel)
theorem w_836 : Cond.fieldLink RX9 13 RX9 "publisher" "[I" ∈ TW := TW_tb 836 (by decide +kernel) (by decide +kernel)
theorem w_837 : Cond.fieldLink RX9 16 RX9 "numberOf" "[I" ∈ TW := TW_tb 837 (by decide +kernel) (by decide +kernel)
theorem w_838 : Cond.fieldLink RX9 19 RX9 "backOf" "[I" ∈ TW := TW_tb 838 (by decide +kernel) (by decide +kernel)
theorem w_839 : Cond.fieldLink RX9 22 RX9 "picture" "[J" ∈ TW := TW_tb 839 (by decide +kernel) (by decide +kernel)
theorem w_840 : Cond.fieldLink RX9 26 RX9 "sky" "[I" ∈ TW := TW_tb 840 (by decide +kernel) (by decide +kernel)
theorem w_841 : Cond.fieldLink RX9 29 RX9 "posted" "[I" ∈ TW := TW_tb 841 (by decide +kernel) (by decide +kernel)
theorem w_842 : Cond.fieldLink RX9 32 RX9 "toldOn" "[I" ∈ TW := TW_tb 842 (by decide +kernel) (by decide +kernel)
theorem w_843 : Cond.fieldLink RX9 35 RX9 "letters" "[I" ∈ TW := TW_tb 843 (by decide +kernel) (by decide +kernel)
theorem w_844 : Cond.fieldLink RX9 38 RX9 "caption" "[I" ∈ TW := TW_tb 844 (by decide +kernel) (by decide +kernel)
theorem w_845 : Cond.fieldLink RX9 132 RX9 "day" "I" ∈ TW := TW_tb 845 (by decide +kernel) (by decide +kernel)
theorem w_846 : Cond.fieldLink RX9 41 RX9 "slack" "I" ∈ TW := TW_tb 846 (by decide +kernel) (by decide +kernel)
theorem w_847 : Cond.fieldLink RX9 45 RX9 "asOf" "I" ∈ TW := TW_tb 847 (by decide +kernel) (by decide +kernel)
theorem w_848 : Cond.fieldLink RX9 48 RX9 "base" "I" ∈ TW := TW_tb 848 (by decide +kernel) (by decide +kernel)
theorem w_849 : Cond.fieldLink RX9 51 RX9 "unlike" "[I" ∈ TW := TW_tb 849 (by decide +kernel) (by decide +kernel)
theorem w_850 : Cond.fieldLink RX9 54 RX9 "negatives" "[I" ∈ TW := TW_tb 850 (by decide +kernel) (by decide +kernel)
theorem w_851 : Cond.fieldLink RX9 57 RX9 "ones" "[I" ∈ TW := TW_tb 851 (by decide +kernel) (by decide +kernel)
theorem w_852 : Cond.fieldLink RX9 60 RX9 "row" "[I" ∈ TW := TW_tb 852 (by decide +kernel) (by decide +kernel)
theorem w_853 : Cond.fieldLink RX9 63 RX9 "rowNext" "[I" ∈ TW := TW_tb 853 (by decide +kernel) (by decide +kernel)
theorem w_854 : Cond.fieldLink RX9 66 RX9 "featureFrom" "[I" ∈ TW := TW_tb 854 (by decide +kernel) (by decide +kernel)
theorem w_855 : Cond.fieldLink RX9 69 RX9 "featureTo" "[I" ∈ TW := TW_tb 855 (by decide +kernel) (by decide +kernel)
theorem w_856 : Cond.fieldLink RX9 72 RX9 "shown" "[I" ∈ TW := TW_tb 856 (by decide +kernel) (by decide +kernel)
theorem w_857 : Cond.fieldLink RX9 75 RX9 "backFrom" "[I" ∈ TW := TW_tb 857 (by decide +kernel) (by decide +kernel)
theorem w_858 : Cond.fieldLink RX9 78 RX9 "backTo" "[I" ∈ TW := TW_tb 858 (by decide +kernel) (by decide +kernel)
theorem w_859 : Cond.fieldLink RX9 201 RX9 "laters" "I" ∈ TW := TW_tb 859 (by decide +kernel) (by decide +kernel)
theorem w_860 : Cond.fieldLink RX9 81 RX9 "laterA" "[I" ∈ TW := TW_tb 860 (by decide +kernel) (by decide +kernel)
theorem w_861 : Cond.fieldLink RX9 84 RX9 "laterB" "[I" ∈ TW := TW_tb 861 (by decide +kernel) (by decide +kernel)
theorem w_862 : Cond.fieldLink RX9 87 RX9 "takenFrom" "[I" ∈ TW := TW_tb 862 (by decide +kernel) (by decide +kernel)
theorem w_863 : Cond.fieldLink RX9 90 RX9 "takenTo" "[I" ∈ TW := TW_tb 863 (by decide +kernel) (by decide +kernel)
theorem w_864 : Cond.fieldLink RX9 93 RX9 "outFrom" "[I" ∈ TW := TW_tb 864 (by decide +kernel) (by decide +kernel)
theorem w_865 : Cond.fieldLink RX9 96 RX9 "outTo" "[I" ∈ TW := TW_tb 865 (by decide +kernel) (by decide +kernel)
theorem w_866 : Cond.fieldLink RX9 204 RX9 "isNarrowed" "Z" ∈ TW := TW_tb 866 (by decide +kernel) (by decide +kernel)
theorem w_867 : Cond.fieldLink RX9 99 RX9 "landmarks" "[I" ∈ TW := TW_tb 867 (by decide +kernel) (by decide +kernel)
theorem w_868 : Cond.fieldLink RX9 232 RX9 "walls" "J" ∈ TW := TW_tb 868 (by decide +kernel) (by decide +kernel)
theorem w_869 : Cond.fieldLink RX9 102 RX9 "views" "[I" ∈ TW := TW_tb 869 (by decide +kernel) (by decide +kernel)
theorem w_870 : Cond.fieldLink RX9 105 RX9 "view" "[I" ∈ TW := TW_tb 870 (by decide +kernel) (by decide +kernel)
theorem w_871 : Cond.fieldLink RX9 254 RX9 "bytes" "I" ∈ TW := TW_tb 871 (by decide +kernel) (by decide +kernel)
theorem w_872 : Cond.fieldLink RX9 108 RX9 "text" "[I" ∈ TW := TW_tb 872 (by decide +kernel) (by decide +kernel)
theorem w_873 : Cond.fieldLink RX9 257 RX9 "position" "I" ∈ TW := TW_tb 873 (by decide +kernel) (by decide +kernel)
theorem w_874 : Cond.fieldLink RX9 260 RX9 "tokenAt" "I" ∈ TW := TW_tb 874 (by decide +kernel) (by decide +kernel)
theorem w_875 : Cond.fieldLink RX9 271 RX9 "token" "J" ∈ TW := TW_tb 875 (by decide +kernel) (by decide +kernel)
theorem w_876 : Cond.fieldLink RX9 263 RX9 "digits" "I" ∈ TW := TW_tb 876 (by decide +kernel) (by decide +kernel)
theorem w_877 : Cond.fieldLink RX9 266 RX9 "number" "I" ∈ TW := TW_tb 877 (by decide +kernel) (by decide +kernel)
theorem w_878 : Cond.fieldLink RX9 282 RX9 "faultAt" "I" ∈ TW := TW_tb 878 (by decide +kernel) (by decide +kernel)
theorem w_879 : Cond.fieldLink RX9 309 RX9 "readMany" "I" ∈ TW := TW_tb 879 (by decide +kernel) (by decide +kernel)
theorem w_880 : Cond.fieldLink RX9 111 RX9 "read" "[I" ∈ TW := TW_tb 880 (by decide +kernel) (by decide +kernel)
theorem w_881 : Cond.fieldLink RX9 215 RX9 "lines" "I" ∈ TW := TW_tb 881 (by decide +kernel) (by decide +kernel)
theorem w_882 : Cond.fieldLink RX9 114 RX9 "line" "[I" ∈ TW := TW_tb 882 (by decide +kernel) (by decide +kernel)
theorem w_22 : Cond.code yX8_init cX8_init 1 none ∈ TW := TW_tb 22 (by decide +kernel) (by decide +kernel)
theorem w_1 : Cond.initialized "ViewCards" ∈ TW := TW_tb 1 (by decide +kernel) (by decide +kernel)
theorem w_20 : Cond.methodLink "ViewCardsLaw" 9 yX8_init ∈ TW := TW_tb 20 (by decide +kernel) (by decide +kernel)
theorem w_21 : Cond.instanceMethod yX8_init ∈ TW := TW_tb 21 (by decide +kernel) (by decide +kernel)
theorem w_102 : Cond.code yX3_init cX3_init 2 none ∈ TW := TW_tb 102 (by decide +kernel) (by decide +kernel)
theorem w_3 : Cond.initialized "ViewCards$Kin" ∈ TW := TW_tb 3 (by decide +kernel) (by decide +kernel)
theorem w_100 : Cond.methodLink RX8 18 yX3_init ∈ TW := TW_tb 100 (by decide +kernel) (by decide +kernel)
theorem w_101 : Cond.instanceMethod yX3_init ∈ TW := TW_tb 101 (by decide +kernel) (by decide +kernel)
theorem w_129 : Cond.code yX5_init cX5_init 2 none ∈ TW := TW_tb 129 (by decide +kernel) (by decide +kernel)
theorem w_4 : Cond.initialized "ViewCards$Numbers" ∈ TW := TW_tb 4 (by decide +kernel) (by decide +kernel)
theorem w_127 : Cond.methodLink RX8 27 yX5_init ∈ TW := TW_tb 127 (by decide +kernel) (by decide +kernel)
theorem w_128 : Cond.instanceMethod yX5_init ∈ TW := TW_tb 128 (by decide +kernel) (by decide +kernel)
theorem w_155 : Cond.code yX1_init cX1_init 5 none ∈ TW := TW_tb 155 (by decide +kernel) (by decide +kernel)
theorem w_5 : Cond.initialized "ViewCards$Dating" ∈ TW := TW_tb 5 (by decide +kernel) (by decide +kernel)
theorem w_153 : Cond.methodLink RX8 34 yX1_init ∈ TW := TW_tb 153 (by decide +kernel) (by decide +kernel)
theorem w_154 : Cond.instanceMethod yX1_init ∈ TW := TW_tb 154 (by decide +kernel) (by decide +kernel)
theorem w_234 : Cond.code yX2_init cX2_init 2 none ∈ TW := TW_tb 234 (by decide +kernel) (by decide +kernel)
theorem w_7 : Cond.initialized "ViewCards$Ground" ∈ TW := TW_tb 7 (by decide +kernel) (by decide +kernel)
theorem w_232 : Cond.methodLink RX8 43 yX2_init ∈ TW := TW_tb 232 (by decide +kernel) (by decide +kernel)
theorem w_233 : Cond.instanceMethod yX2_init ∈ TW := TW_tb 233 (by decide +kernel) (by decide +kernel)
theorem w_354 : Cond.code yX8_card cX8_card 10 (some .int) ∈ TW := TW_tb 354 (by decide +kernel) (by decide +kernel)
theorem w_351 : Cond.methodLink "ViewCardsLaw" 15 yX8_card ∈ TW := TW_tb 351 (by decide +kernel) (by decide +kernel)
theorem w_352 : Cond.instanceMethod yX8_card ∈ TW := TW_tb 352 (by decide +kernel) (by decide +kernel)
theorem w_353 : Cond.selects yX8_card.cls yX8_card yX8_card ∈ TW := TW_tb 353 (by decide +kernel) (by decide +kernel)
theorem w_357 : Cond.code yX8_isWithin cX8_isWithin 3 (some .boolean) ∈ TW := TW_tb 357 (by decide +kernel) (by decide +kernel)
theorem w_355 : Cond.methodLink RX8 72 yX8_isWithin ∈ TW := TW_tb 355 (by decide +kernel) (by decide +kernel)
theorem w_356 : Cond.static yX8_isWithin ∈ TW := TW_tb 356 (by decide +kernel) (by decide +kernel)
theorem w_361 : Cond.code yX0_tell cX0_tell 9 none ∈ TW := TW_tb 361 (by decide +kernel) (by decide +kernel)
theorem w_2 : Cond.initialized "ViewCards$Album" ∈ TW := TW_tb 2 (by decide +kernel) (by decide +kernel)
theorem w_358 : Cond.methodLink RX8 79 yX0_tell ∈ TW := TW_tb 358 (by decide +kernel) (by decide +kernel)
theorem w_359 : Cond.instanceMethod yX0_tell ∈ TW := TW_tb 359 (by decide +kernel) (by decide +kernel)
theorem w_360 : Cond.selects yX0_tell.cls yX0_tell yX0_tell ∈ TW := TW_tb 360 (by decide +kernel) (by decide +kernel)
theorem w_365 : Cond.code yX3_comparePicture cX3_comparePicture 4 none ∈ TW := TW_tb 365 (by decide +kernel) (by decide +kernel)
theorem w_362 : Cond.methodLink RX8 83 yX3_comparePicture ∈ TW := TW_tb 362 (by decide +kernel) (by decide +kernel)
theorem w_363 : Cond.instanceMethod yX3_comparePicture ∈ TW := TW_tb 363 (by decide +kernel) (by decide +kernel)
theorem w_364 : Cond.selects yX3_comparePicture.cls yX3_comparePicture yX3_comparePicture ∈ TW := TW_tb 364 (by decide +kernel) (by decide +kernel)
theorem w_369 : Cond.code yX3_fewestOtherwise cX3_fewestOtherwise 11 (some .int) ∈ TW := TW_tb 369 (by decide +kernel) (by decide +kernel)
theorem w_366 : Cond.methodLink RX3 36 yX3_fewestOtherwise ∈ TW := TW_tb 366 (by decide +kernel) (by decide +kernel)
theorem w_368 : Cond.instanceMethod yX3_fewestOtherwise ∈ TW := TW_tb 368 (by decide +kernel) (by decide +kernel)
theorem ws_0 : Cond.selects yX3_fewestOtherwise.cls yX3_fewestOtherwise yX3_fewestOtherwise ∈ TW := TW_pr 0 (by decide +kernel) (by decide +kernel)
theorem w_372 : Cond.code yX3_cellsInBoth cX3_cellsInBoth 11 (some .long) ∈ TW := TW_tb 372 (by decide +kernel) (by decide +kernel)
theorem w_370 : Cond.methodLink RX3 43 yX3_cellsInBoth ∈ TW := TW_tb 370 (by decide +kernel) (by decide +kernel)
theorem w_371 : Cond.static yX3_cellsInBoth ∈ TW := TW_tb 371 (by decide +kernel) (by decide +kernel)
theorem w_381 : Cond.code yJ13_bitCount_95d88 cJ13_bitCount_95d88 2 (some .int) ∈ TW := TW_tb 381 (by decide +kernel) (by decide +kernel)
theorem w_12 : Cond.initialized "java/lang/Long" ∈ TW := TW_tb 12 (by decide +kernel) (by decide +kernel)
theorem w_379 : Cond.methodLink RX3 47 yJ13_bitCount_95d88 ∈ TW := TW_tb 379 (by decide +kernel) (by decide +kernel)
theorem w_380 : Cond.static yJ13_bitCount_95d88 ∈ TW := TW_tb 380 (by decide +kernel) (by decide +kernel)
theorem w_387 : Cond.code yX3_moved cX3_moved 3 (some .long) ∈ TW := TW_tb 387 (by decide +kernel) (by decide +kernel)
theorem w_385 : Cond.methodLink RX3 57 yX3_moved ∈ TW := TW_tb 385 (by decide +kernel) (by decide +kernel)
theorem w_386 : Cond.static yX3_moved ∈ TW := TW_tb 386 (by decide +kernel) (by decide +kernel)
theorem w_391 : Cond.code yX3_compareWord cX3_compareWord 4 none ∈ TW := TW_tb 391 (by decide +kernel) (by decide +kernel)
theorem w_388 : Cond.methodLink RX8 87 yX3_compareWord ∈ TW := TW_tb 388 (by decide +kernel) (by decide +kernel)
theorem w_389 : Cond.instanceMethod yX3_compareWord ∈ TW := TW_tb 389 (by decide +kernel) (by decide +kernel)
theorem w_390 : Cond.selects yX3_compareWord.cls yX3_compareWord yX3_compareWord ∈ TW := TW_tb 390 (by decide +kernel) (by decide +kernel)
theorem w_395 : Cond.code yX3_fewestChanges cX3_fewestChanges 10 (some .int) ∈ TW := TW_tb 395 (by decide +kernel) (by decide +kernel)
theorem w_392 : Cond.methodLink RX3 69 yX3_fewestChanges ∈ TW := TW_tb 392 (by decide +kernel) (by decide +kernel)
theorem w_394 : Cond.instanceMethod yX3_fewestChanges ∈ TW := TW_tb 394 (by decide +kernel) (by decide +kernel)
theorem ws_1 : Cond.selects yX3_fewestChanges.cls yX3_fewestChanges yX3_fewestChanges ∈ TW := TW_pr 1 (by decide +kernel) (by decide +kernel)
theorem w_403 : Cond.code yX8_caption cX8_caption 6 (some .int) ∈ TW := TW_tb 403 (by decide +kernel) (by decide +kernel)
theorem w_400 : Cond.methodLink "ViewCardsLaw" 20 yX8_caption ∈ TW := TW_tb 400 (by decide +kernel) (by decide +kernel)
theorem w_401 : Cond.instanceMethod yX8_caption ∈ TW := TW_tb 401 (by decide +kernel) (by decide +kernel)
theorem w_402 : Cond.selects yX8_caption.cls yX8_caption yX8_caption ∈ TW := TW_tb 402 (by decide +kernel) (by decide +kernel)
theorem w_407 : Cond.code yX0_isThere cX0_isThere 2 (some .boolean) ∈ TW := TW_tb 407 (by decide +kernel) (by decide +kernel)
theorem w_404 : Cond.methodLink RX8 90 yX0_isThere ∈ TW := TW_tb 404 (by decide +kernel) (by decide +kernel)
theorem w_405 : Cond.instanceMethod yX0_isThere ∈ TW := TW_tb 405 (by decide +kernel) (by decide +kernel)
theorem w_406 : Cond.selects yX0_isThere.cls yX0_isThere yX0_isThere ∈ TW := TW_tb 406 (by decide +kernel) (by decide +kernel)
theorem w_398 : Cond.code yX8_byteOf cX8_byteOf 3 (some .int) ∈ TW := TW_tb 398 (by decide +kernel) (by decide +kernel)
theorem w_408 : Cond.methodLink RX8 94 yX8_byteOf ∈ TW := TW_tb 408 (by decide +kernel) (by decide +kernel)
theorem w_397 : Cond.static yX8_byteOf ∈ TW := TW_tb 397 (by decide +kernel) (by decide +kernel)
theorem w_411 : Cond.code yX8_isLetter cX8_isLetter 1 (some .boolean) ∈ TW := TW_tb 411 (by decide +kernel) (by decide +kernel)
theorem w_409 : Cond.methodLink RX8 98 yX8_isLetter ∈ TW := TW_tb 409 (by decide +kernel) (by decide +kernel)
theorem w_410 : Cond.static yX8_isLetter ∈ TW := TW_tb 410 (by decide +kernel) (by decide +kernel)
theorem w_415 : Cond.code yX8_days cX8_days 2 (some .int) ∈ TW := TW_tb 415 (by decide +kernel) (by decide +kernel)
theorem w_412 : Cond.methodLink "ViewCardsLaw" 25 yX8_days ∈ TW := TW_tb 412 (by decide +kernel) (by decide +kernel)
theorem w_413 : Cond.instanceMethod yX8_days ∈ TW := TW_tb 413 (by decide +kernel) (by decide +kernel)
theorem w_414 : Cond.selects yX8_days.cls yX8_days yX8_days ∈ TW := TW_tb 414 (by decide +kernel) (by decide +kernel)
theorem w_419 : Cond.code yX8_set cX8_set 4 (some .int) ∈ TW := TW_tb 419 (by decide +kernel) (by decide +kernel)
theorem w_416 : Cond.methodLink "ViewCardsLaw" 30 yX8_set ∈ TW := TW_tb 416 (by decide +kernel) (by decide +kernel)
theorem w_417 : Cond.instanceMethod yX8_set ∈ TW := TW_tb 417 (by decide +kernel) (by decide +kernel)
theorem w_418 : Cond.selects yX8_set.cls yX8_set yX8_set ∈ TW := TW_tb 418 (by decide +kernel) (by decide +kernel)
theorem w_423 : Cond.code yX8_difference cX8_difference 3 (some .int) ∈ TW := TW_tb 423 (by decide +kernel) (by decide +kernel)
theorem w_420 : Cond.methodLink "ViewCardsLaw" 35 yX8_difference ∈ TW := TW_tb 420 (by decide +kernel) (by decide +kernel)
theorem w_421 : Cond.instanceMethod yX8_difference ∈ TW := TW_tb 421 (by decide +kernel) (by decide +kernel)
theorem w_422 : Cond.selects yX8_difference.cls yX8_difference yX8_difference ∈ TW := TW_tb 422 (by decide +kernel) (by decide +kernel)
theorem w_427 : Cond.code yX8_areTwoThere cX8_areTwoThere 3 (some .boolean) ∈ TW := TW_tb 427 (by decide +kernel) (by decide +kernel)
theorem w_424 : Cond.methodLink RX8 118 yX8_areTwoThere ∈ TW := TW_tb 424 (by decide +kernel) (by decide +kernel)
theorem w_426 : Cond.instanceMethod yX8_areTwoThere ∈ TW := TW_tb 426 (by decide +kernel) (by decide +kernel)
theorem ws_2 : Cond.selects yX8_areTwoThere.cls yX8_areTwoThere yX8_areTwoThere ∈ TW := TW_pr 2 (by decide +kernel) (by decide +kernel)
theorem w_431 : Cond.code yX8_negative cX8_negative 2 (some .int) ∈ TW := TW_tb 431 (by decide +kernel) (by decide +kernel)
theorem w_428 : Cond.methodLink "ViewCardsLaw" 39 yX8_negative ∈ TW := TW_tb 428 (by decide +kernel) (by decide +kernel)
theorem w_429 : Cond.instanceMethod yX8_negative ∈ TW := TW_tb 429 (by decide +kernel) (by decide +kernel)
theorem w_430 : Cond.selects yX8_negative.cls yX8_negative yX8_negative ∈ TW := TW_tb 430 (by decide +kernel) (by decide +kernel)
theorem w_435 : Cond.code yX0_there cX0_there 3 (some .int) ∈ TW := TW_tb 435 (by decide +kernel) (by decide +kernel)
theorem w_432 : Cond.methodLink RX8 126 yX0_there ∈ TW := TW_tb 432 (by decide +kernel) (by decide +kernel)
theorem w_433 : Cond.instanceMethod yX0_there ∈ TW := TW_tb 433 (by decide +kernel) (by decide +kernel)
theorem w_434 : Cond.selects yX0_there.cls yX0_there yX0_there ∈ TW := TW_tb 434 (by decide +kernel) (by decide +kernel)
theorem w_436 : Cond.methodLink RX0 53 yX0_isThere ∈ TW := TW_tb 436 (by decide +kernel) (by decide +kernel)
theorem w_440 : Cond.code yX3_sameNegative cX3_sameNegative 3 (some .int) ∈ TW := TW_tb 440 (by decide +kernel) (by decide +kernel)
theorem w_437 : Cond.methodLink RX8 130 yX3_sameNegative ∈ TW := TW_tb 437 (by decide +kernel) (by decide +kernel)
theorem w_438 : Cond.instanceMethod yX3_sameNegative ∈ TW := TW_tb 438 (by decide +kernel) (by decide +kernel)
theorem w_439 : Cond.selects yX3_sameNegative.cls yX3_sameNegative yX3_sameNegative ∈ TW := TW_tb 439 (by decide +kernel) (by decide +kernel)
theorem w_444 : Cond.code yX3_chained cX3_chained 10 (some .int) ∈ TW := TW_tb 444 (by decide +kernel) (by decide +kernel)
theorem w_441 : Cond.methodLink RX3 98 yX3_chained ∈ TW := TW_tb 441 (by decide +kernel) (by decide +kernel)
theorem w_443 : Cond.instanceMethod yX3_chained ∈ TW := TW_tb 443 (by decide +kernel) (by decide +kernel)
theorem ws_3 : Cond.selects yX3_chained.cls yX3_chained yX3_chained ∈ TW := TW_pr 3 (by decide +kernel) (by decide +kernel)
theorem w_450 : Cond.code yJ6_bitCount_0f7a4 cJ6_bitCount_0f7a4 1 (some .int) ∈ TW := TW_tb 450 (by decide +kernel) (by decide +kernel)
theorem w_13 : Cond.initialized "java/lang/Integer" ∈ TW := TW_tb 13 (by decide +kernel) (by decide +kernel)
theorem w_448 : Cond.methodLink RX8 159 yJ6_bitCount_0f7a4 ∈ TW := TW_tb 448 (by decide +kernel) (by decide +kernel)
theorem w_449 : Cond.static yJ6_bitCount_0f7a4 ∈ TW := TW_tb 449 (by decide +kernel) (by decide +kernel)
theorem w_460 : Cond.code yX3_isMatch cX3_isMatch 4 (some .boolean) ∈ TW := TW_tb 460 (by decide +kernel) (by decide +kernel)
theorem w_457 : Cond.methodLink RX3 109 yX3_isMatch ∈ TW := TW_tb 457 (by decide +kernel) (by decide +kernel)
theorem w_458 : Cond.instanceMethod yX3_isMatch ∈ TW := TW_tb 458 (by decide +kernel) (by decide +kernel)
theorem w_459 : Cond.selects yX3_isMatch.cls yX3_isMatch yX3_isMatch ∈ TW := TW_tb 459 (by decide +kernel) (by decide +kernel)
theorem w_464 : Cond.code yX3_isLike cX3_isLike 3 (some .boolean) ∈ TW := TW_tb 464 (by decide +kernel) (by decide +kernel)
theorem w_461 : Cond.methodLink RX3 94 yX3_isLike ∈ TW := TW_tb 461 (by decide +kernel) (by decide +kernel)
theorem w_462 : Cond.instanceMethod yX3_isLike ∈ TW := TW_tb 462 (by decide +kernel) (by decide +kernel)
theorem w_463 : Cond.selects yX3_isLike.cls yX3_isLike yX3_isLike ∈ TW := TW_tb 463 (by decide +kernel) (by decide +kernel)
theorem w_447 : Cond.code yX8_lowest cX8_lowest 1 (some .int) ∈ TW := TW_tb 447 (by decide +kernel) (by decide +kernel)
theorem w_465 : Cond.methodLink RX8 134 yX8_lowest ∈ TW := TW_tb 465 (by decide +kernel) (by decide +kernel)
theorem w_446 : Cond.static yX8_lowest ∈ TW := TW_tb 446 (by decide +kernel) (by decide +kernel)
theorem w_469 : Cond.code yX8_far cX8_far 3 (some .int) ∈ TW := TW_tb 469 (by decide +kernel) (by decide +kernel)
theorem w_466 : Cond.methodLink "ViewCardsLaw" 43 yX8_far ∈ TW := TW_tb 466 (by decide +kernel) (by decide +kernel)
theorem w_467 : Cond.instanceMethod yX8_far ∈ TW := TW_tb 467 (by decide +kernel) (by decide +kernel)
theorem w_468 : Cond.selects yX8_far.cls yX8_far yX8_far ∈ TW := TW_tb 468 (by decide +kernel) (by decide +kernel)
theorem w_473 : Cond.code yX8_match cX8_match 3 (some .int) ∈ TW := TW_tb 473 (by decide +kernel) (by decide +kernel)
theorem w_470 : Cond.methodLink "ViewCardsLaw" 47 yX8_match ∈ TW := TW_tb 470 (by decide +kernel) (by decide +kernel)
theorem w_471 : Cond.instanceMethod yX8_match ∈ TW := TW_tb 471 (by decide +kernel) (by decide +kernel)
theorem w_472 : Cond.selects yX8_match.cls yX8_match yX8_match ∈ TW := TW_tb 472 (by decide +kernel) (by decide +kernel)
theorem w_474 : Cond.methodLink RX8 141 yX3_isMatch ∈ TW := TW_tb 474 (by decide +kernel) (by decide +kernel)
theorem w_478 : Cond.code yX8_of cX8_of 3 (some .int) ∈ TW := TW_tb 478 (by decide +kernel) (by decide +kernel)
theorem w_475 : Cond.methodLink "ViewCardsLaw" 51 yX8_of ∈ TW := TW_tb 475 (by decide +kernel) (by decide +kernel)
theorem w_476 : Cond.instanceMethod yX8_of ∈ TW := TW_tb 476 (by decide +kernel) (by decide +kernel)
theorem w_477 : Cond.selects yX8_of.cls yX8_of yX8_of ∈ TW := TW_tb 477 (by decide +kernel) (by decide +kernel)
theorem w_482 : Cond.code yX3_sameCard cX3_sameCard 3 (some .int) ∈ TW := TW_tb 482 (by decide +kernel) (by decide +kernel)
theorem w_479 : Cond.methodLink RX8 144 yX3_sameCard ∈ TW := TW_tb 479 (by decide +kernel) (by decide +kernel)
theorem w_480 : Cond.instanceMethod yX3_sameCard ∈ TW := TW_tb 480 (by decide +kernel) (by decide +kernel)
theorem w_481 : Cond.selects yX3_sameCard.cls yX3_sameCard yX3_sameCard ∈ TW := TW_tb 481 (by decide +kernel) (by decide +kernel)
theorem w_486 : Cond.code yX8_timesSeen cX8_timesSeen 2 (some .int) ∈ TW := TW_tb 486 (by decide +kernel) (by decide +kernel)
theorem w_483 : Cond.methodLink RX8 147 yX8_timesSeen ∈ TW := TW_tb 483 (by decide +kernel) (by decide +kernel)
theorem w_485 : Cond.instanceMethod yX8_timesSeen ∈ TW := TW_tb 485 (by decide +kernel) (by decide +kernel)
theorem ws_4 : Cond.selects yX8_timesSeen.cls yX8_timesSeen yX8_timesSeen ∈ TW := TW_pr 4 (by decide +kernel) (by decide +kernel)
theorem w_490 : Cond.code yX0_listsOf cX0_listsOf 2 (some .int) ∈ TW := TW_tb 490 (by decide +kernel) (by decide +kernel)
theorem w_487 : Cond.methodLink RX8 164 yX0_listsOf ∈ TW := TW_tb 487 (by decide +kernel) (by decide +kernel)
theorem w_488 : Cond.instanceMethod yX0_listsOf ∈ TW := TW_tb 488 (by decide +kernel) (by decide +kernel)
theorem w_489 : Cond.selects yX0_listsOf.cls yX0_listsOf yX0_listsOf ∈ TW := TW_tb 489 (by decide +kernel) (by decide +kernel)
theorem w_493 : Cond.code yX0_valuesOf cX0_valuesOf 4 (some .int) ∈ TW := TW_tb 493 (by decide +kernel) (by decide +kernel)
theorem w_491 : Cond.methodLink RX0 57 yX0_valuesOf ∈ TW := TW_tb 491 (by decide +kernel) (by decide +kernel)
theorem w_492 : Cond.static yX0_valuesOf ∈ TW := TW_tb 492 (by decide +kernel) (by decide +kernel)
theorem w_498 : Cond.code yX3_rivals cX3_rivals 7 (some .int) ∈ TW := TW_tb 498 (by decide +kernel) (by decide +kernel)
theorem w_495 : Cond.methodLink RX8 150 yX3_rivals ∈ TW := TW_tb 495 (by decide +kernel) (by decide +kernel)
theorem w_496 : Cond.instanceMethod yX3_rivals ∈ TW := TW_tb 496 (by decide +kernel) (by decide +kernel)
theorem w_497 : Cond.selects yX3_rivals.cls yX3_rivals yX3_rivals ∈ TW := TW_tb 497 (by decide +kernel) (by decide +kernel)
theorem w_499 : Cond.methodLink RX3 116 yJ6_bitCount_0f7a4 ∈ TW := TW_tb 499 (by decide +kernel) (by decide +kernel)
theorem w_503 : Cond.code yX8_priceOf cX8_priceOf 3 (some .int) ∈ TW := TW_tb 503 (by decide +kernel) (by decide +kernel)
theorem w_500 : Cond.methodLink RX8 153 yX8_priceOf ∈ TW := TW_tb 500 (by decide +kernel) (by decide +kernel)
theorem w_502 : Cond.instanceMethod yX8_priceOf ∈ TW := TW_tb 502 (by decide +kernel) (by decide +kernel)
theorem ws_5 : Cond.selects yX8_priceOf.cls yX8_priceOf yX8_priceOf ∈ TW := TW_pr 5 (by decide +kernel) (by decide +kernel)
theorem w_508 : Cond.code yX5_gather cX5_gather 3 none ∈ TW := TW_tb 508 (by decide +kernel) (by decide +kernel)
theorem w_505 : Cond.methodLink RX8 175 yX5_gather ∈ TW := TW_tb 505 (by decide +kernel) (by decide +kernel)
theorem w_506 : Cond.instanceMethod yX5_gather ∈ TW := TW_tb 506 (by decide +kernel) (by decide +kernel)
theorem w_507 : Cond.selects yX5_gather.cls yX5_gather yX5_gather ∈ TW := TW_tb 507 (by decide +kernel) (by decide +kernel)
theorem w_509 : Cond.methodLink RX5 25 yX0_isThere ∈ TW := TW_tb 509 (by decide +kernel) (by decide +kernel)
theorem w_513 : Cond.code yX5_isByGap cX5_isByGap 2 (some .boolean) ∈ TW := TW_tb 513 (by decide +kernel) (by decide +kernel)
theorem w_510 : Cond.methodLink RX8 181 yX5_isByGap ∈ TW := TW_tb 510 (by decide +kernel) (by decide +kernel)
theorem w_511 : Cond.instanceMethod yX5_isByGap ∈ TW := TW_tb 511 (by decide +kernel) (by decide +kernel)
theorem w_512 : Cond.selects yX5_isByGap.cls yX5_isByGap yX5_isByGap ∈ TW := TW_tb 512 (by decide +kernel) (by decide +kernel)
theorem w_517 : Cond.code yX5_isMissing cX5_isMissing 2 (some .boolean) ∈ TW := TW_tb 517 (by decide +kernel) (by decide +kernel)
theorem w_514 : Cond.methodLink RX5 43 yX5_isMissing ∈ TW := TW_tb 514 (by decide +kernel) (by decide +kernel)
theorem w_515 : Cond.instanceMethod yX5_isMissing ∈ TW := TW_tb 515 (by decide +kernel) (by decide +kernel)
theorem w_516 : Cond.selects yX5_isMissing.cls yX5_isMissing yX5_isMissing ∈ TW := TW_tb 516 (by decide +kernel) (by decide +kernel)
theorem w_521 : Cond.code yX0_publishersOf cX0_publishersOf 2 (some .int) ∈ TW := TW_tb 521 (by decide +kernel) (by decide +kernel)
theorem w_518 : Cond.methodLink RX8 156 yX0_publishersOf ∈ TW := TW_tb 518 (by decide +kernel) (by decide +kernel)
theorem w_519 : Cond.instanceMethod yX0_publishersOf ∈ TW := TW_tb 519 (by decide +kernel) (by decide +kernel)
theorem w_520 : Cond.selects yX0_publishersOf.cls yX0_publishersOf yX0_publishersOf ∈ TW := TW_tb 520 (by decide +kernel) (by decide +kernel)
theorem w_525 : Cond.code yX8_series cX8_series 3 (some .int) ∈ TW := TW_tb 525 (by decide +kernel) (by decide +kernel)
theorem w_522 : Cond.methodLink "ViewCardsLaw" 55 yX8_series ∈ TW := TW_tb 522 (by decide +kernel) (by decide +kernel)
theorem w_523 : Cond.instanceMethod yX8_series ∈ TW := TW_tb 523 (by decide +kernel) (by decide +kernel)
theorem w_524 : Cond.selects yX8_series.cls yX8_series yX8_series ∈ TW := TW_tb 524 (by decide +kernel) (by decide +kernel)
theorem w_529 : Cond.code yX5_missing cX5_missing 1 (some .int) ∈ TW := TW_tb 529 (by decide +kernel) (by decide +kernel)
theorem w_526 : Cond.methodLink RX8 191 yX5_missing ∈ TW := TW_tb 526 (by decide +kernel) (by decide +kernel)
theorem w_527 : Cond.instanceMethod yX5_missing ∈ TW := TW_tb 527 (by decide +kernel) (by decide +kernel)
theorem w_528 : Cond.selects yX5_missing.cls yX5_missing yX5_missing ∈ TW := TW_tb 528 (by decide +kernel) (by decide +kernel)
theorem w_533 : Cond.code yX5_gaps cX5_gaps 3 (some .int) ∈ TW := TW_tb 533 (by decide +kernel) (by decide +kernel)
theorem w_530 : Cond.methodLink RX8 194 yX5_gaps ∈ TW := TW_tb 530 (by decide +kernel) (by decide +kernel)
theorem w_531 : Cond.instanceMethod yX5_gaps ∈ TW := TW_tb 531 (by decide +kernel) (by decide +kernel)
theorem w_532 : Cond.selects yX5_gaps.cls yX5_gaps yX5_gaps ∈ TW := TW_tb 532 (by decide +kernel) (by decide +kernel)
theorem w_537 : Cond.code yX8_gap cX8_gap 3 (some .int) ∈ TW := TW_tb 537 (by decide +kernel) (by decide +kernel)
theorem w_534 : Cond.methodLink "ViewCardsLaw" 59 yX8_gap ∈ TW := TW_tb 534 (by decide +kernel) (by decide +kernel)
theorem w_535 : Cond.instanceMethod yX8_gap ∈ TW := TW_tb 535 (by decide +kernel) (by decide +kernel)
theorem w_536 : Cond.selects yX8_gap.cls yX8_gap yX8_gap ∈ TW := TW_tb 536 (by decide +kernel) (by decide +kernel)
theorem w_541 : Cond.code yX5_gapAt cX5_gapAt 5 (some .int) ∈ TW := TW_tb 541 (by decide +kernel) (by decide +kernel)
theorem w_538 : Cond.methodLink RX8 197 yX5_gapAt ∈ TW := TW_tb 538 (by decide +kernel) (by decide +kernel)
theorem w_539 : Cond.instanceMethod yX5_gapAt ∈ TW := TW_tb 539 (by decide +kernel) (by decide +kernel)
theorem w_540 : Cond.selects yX5_gapAt.cls yX5_gapAt yX5_gapAt ∈ TW := TW_tb 540 (by decide +kernel) (by decide +kernel)
theorem w_545 : Cond.code yX8_unseen cX8_unseen 7 (some .int) ∈ TW := TW_tb 545 (by decide +kernel) (by decide +kernel)
theorem w_542 : Cond.methodLink "ViewCardsLaw" 63 yX8_unseen ∈ TW := TW_tb 542 (by decide +kernel) (by decide +kernel)
theorem w_543 : Cond.instanceMethod yX8_unseen ∈ TW := TW_tb 543 (by decide +kernel) (by decide +kernel)
theorem w_544 : Cond.selects yX8_unseen.cls yX8_unseen yX8_unseen ∈ TW := TW_tb 544 (by decide +kernel) (by decide +kernel)
theorem w_549 : Cond.code yX8_cardsSeen cX8_cardsSeen 5 (some .int) ∈ TW := TW_tb 549 (by decide +kernel) (by decide +kernel)
theorem w_546 : Cond.methodLink RX8 200 yX8_cardsSeen ∈ TW := TW_tb 546 (by decide +kernel) (by decide +kernel)
theorem w_548 : Cond.instanceMethod yX8_cardsSeen ∈ TW := TW_tb 548 (by decide +kernel) (by decide +kernel)
theorem ws_6 : Cond.selects yX8_cardsSeen.cls yX8_cardsSeen yX8_cardsSeen ∈ TW := TW_pr 6 (by decide +kernel) (by decide +kernel)
theorem w_553 : Cond.code yX3_differentCards cX3_differentCards 2 (some .int) ∈ TW := TW_tb 553 (by decide +kernel) (by decide +kernel)
theorem w_550 : Cond.methodLink RX8 206 yX3_differentCards ∈ TW := TW_tb 550 (by decide +kernel) (by decide +kernel)
theorem w_551 : Cond.instanceMethod yX3_differentCards ∈ TW := TW_tb 551 (by decide +kernel) (by decide +kernel)
theorem w_552 : Cond.selects yX3_differentCards.cls yX3_differentCards yX3_differentCards ∈ TW := TW_tb 552 (by decide +kernel) (by decide +kernel)
theorem w_557 : Cond.code yX3_leastOfChains cX3_leastOfChains 6 (some .int) ∈ TW := TW_tb 557 (by decide +kernel) (by decide +kernel)
theorem w_554 : Cond.methodLink RX3 112 yX3_leastOfChains ∈ TW := TW_tb 554 (by decide +kernel) (by decide +kernel)
theorem w_556 : Cond.instanceMethod yX3_leastOfChains ∈ TW := TW_tb 556 (by decide +kernel) (by decide +kernel)
theorem ws_7 : Cond.selects yX3_leastOfChains.cls yX3_leastOfChains yX3_leastOfChains ∈ TW := TW_pr 7 (by decide +kernel) (by decide +kernel)
theorem w_456 : Cond.code yX8_has cX8_has 2 (some .boolean) ∈ TW := TW_tb 456 (by decide +kernel) (by decide +kernel)
theorem w_558 : Cond.methodLink RX8 209 yX8_has ∈ TW := TW_tb 558 (by decide +kernel) (by decide +kernel)
theorem w_455 : Cond.static yX8_has ∈ TW := TW_tb 455 (by decide +kernel) (by decide +kernel)
theorem w_561 : Cond.code yX8_commonDivisor cX8_commonDivisor 6 (some .int) ∈ TW := TW_tb 561 (by decide +kernel) (by decide +kernel)
theorem w_559 : Cond.methodLink RX8 203 yX8_commonDivisor ∈ TW := TW_tb 559 (by decide +kernel) (by decide +kernel)
theorem w_560 : Cond.static yX8_commonDivisor ∈ TW := TW_tb 560 (by decide +kernel) (by decide +kernel)
theorem w_565 : Cond.code yX8_overlap cX8_overlap 5 (some .int) ∈ TW := TW_tb 565 (by decide +kernel) (by decide +kernel)
theorem w_562 : Cond.methodLink "ViewCardsLaw" 67 yX8_overlap ∈ TW := TW_tb 562 (by decide +kernel) (by decide +kernel)
theorem w_563 : Cond.instanceMethod yX8_overlap ∈ TW := TW_tb 563 (by decide +kernel) (by decide +kernel)
theorem w_564 : Cond.selects yX8_overlap.cls yX8_overlap yX8_overlap ∈ TW := TW_tb 564 (by decide +kernel) (by decide +kernel)
theorem w_569 : Cond.code yX8_cardsInBoth cX8_cardsInBoth 7 (some .int) ∈ TW := TW_tb 569 (by decide +kernel) (by decide +kernel)
theorem w_566 : Cond.methodLink RX8 212 yX8_cardsInBoth ∈ TW := TW_tb 566 (by decide +kernel) (by decide +kernel)
theorem w_568 : Cond.instanceMethod yX8_cardsInBoth ∈ TW := TW_tb 568 (by decide +kernel) (by decide +kernel)
theorem ws_8 : Cond.selects yX8_cardsInBoth.cls yX8_cardsInBoth yX8_cardsInBoth ∈ TW := TW_pr 8 (by decide +kernel) (by decide +kernel)
theorem w_573 : Cond.code yX8_feature cX8_feature 4 (some .int) ∈ TW := TW_tb 573 (by decide +kernel) (by decide +kernel)
theorem w_570 : Cond.methodLink "ViewCardsLaw" 72 yX8_feature ∈ TW := TW_tb 570 (by decide +kernel) (by decide +kernel)
theorem w_571 : Cond.instanceMethod yX8_feature ∈ TW := TW_tb 571 (by decide +kernel) (by decide +kernel)
theorem w_572 : Cond.selects yX8_feature.cls yX8_feature yX8_feature ∈ TW := TW_tb 572 (by decide +kernel) (by decide +kernel)
theorem w_576 : Cond.code yX8_isSpan cX8_isSpan 2 (some .boolean) ∈ TW := TW_tb 576 (by decide +kernel) (by decide +kernel)
theorem w_574 : Cond.methodLink RX8 215 yX8_isSpan ∈ TW := TW_tb 574 (by decide +kernel) (by decide +kernel)
theorem w_575 : Cond.static yX8_isSpan ∈ TW := TW_tb 575 (by decide +kernel) (by decide +kernel)
theorem w_580 : Cond.code yX8_shows cX8_shows 5 (some .int) ∈ TW := TW_tb 580 (by decide +kernel) (by decide +kernel)
theorem w_577 : Cond.methodLink "ViewCardsLaw" 76 yX8_shows ∈ TW := TW_tb 577 (by decide +kernel) (by decide +kernel)
theorem w_578 : Cond.instanceMethod yX8_shows ∈ TW := TW_tb 578 (by decide +kernel) (by decide +kernel)
theorem w_579 : Cond.selects yX8_shows.cls yX8_shows yX8_shows ∈ TW := TW_tb 579 (by decide +kernel) (by decide +kernel)
theorem w_584 : Cond.code yX8_back cX8_back 4 (some .int) ∈ TW := TW_tb 584 (by decide +kernel) (by decide +kernel)
theorem w_581 : Cond.methodLink "ViewCardsLaw" 80 yX8_back ∈ TW := TW_tb 581 (by decide +kernel) (by decide +kernel)
theorem w_582 : Cond.instanceMethod yX8_back ∈ TW := TW_tb 582 (by decide +kernel) (by decide +kernel)
theorem w_583 : Cond.selects yX8_back.cls yX8_back yX8_back ∈ TW := TW_tb 583 (by decide +kernel) (by decide +kernel)
theorem w_588 : Cond.code yX8_later cX8_later 3 (some .int) ∈ TW := TW_tb 588 (by decide +kernel) (by decide +kernel)
theorem w_585 : Cond.methodLink "ViewCardsLaw" 84 yX8_later ∈ TW := TW_tb 585 (by decide +kernel) (by decide +kernel)
theorem w_586 : Cond.instanceMethod yX8_later ∈ TW := TW_tb 586 (by decide +kernel) (by decide +kernel)
theorem w_587 : Cond.selects yX8_later.cls yX8_later yX8_later ∈ TW := TW_tb 587 (by decide +kernel) (by decide +kernel)
theorem w_592 : Cond.code yX8_span cX8_span 5 (some .int) ∈ TW := TW_tb 592 (by decide +kernel) (by decide +kernel)
theorem w_589 : Cond.methodLink "ViewCardsLaw" 88 yX8_span ∈ TW := TW_tb 589 (by decide +kernel) (by decide +kernel)
theorem w_590 : Cond.instanceMethod yX8_span ∈ TW := TW_tb 590 (by decide +kernel) (by decide +kernel)
theorem w_591 : Cond.selects yX8_span.cls yX8_span yX8_span ∈ TW := TW_tb 591 (by decide +kernel) (by decide +kernel)
theorem w_596 : Cond.code yX1_settle cX1_settle 5 (some .boolean) ∈ TW := TW_tb 596 (by decide +kernel) (by decide +kernel)
theorem w_593 : Cond.methodLink RX8 242 yX1_settle ∈ TW := TW_tb 593 (by decide +kernel) (by decide +kernel)
theorem w_594 : Cond.instanceMethod yX1_settle ∈ TW := TW_tb 594 (by decide +kernel) (by decide +kernel)
theorem w_595 : Cond.selects yX1_settle.cls yX1_settle yX1_settle ∈ TW := TW_tb 595 (by decide +kernel) (by decide +kernel)
theorem w_600 : Cond.code yX1_findLeaders cX1_findLeaders 6 none ∈ TW := TW_tb 600 (by decide +kernel) (by decide +kernel)
theorem w_597 : Cond.methodLink RX1 56 yX1_findLeaders ∈ TW := TW_tb 597 (by decide +kernel) (by decide +kernel)
theorem w_599 : Cond.instanceMethod yX1_findLeaders ∈ TW := TW_tb 599 (by decide +kernel) (by decide +kernel)
theorem ws_9 : Cond.selects yX1_findLeaders.cls yX1_findLeaders yX1_findLeaders ∈ TW := TW_pr 9 (by decide +kernel) (by decide +kernel)
theorem w_605 : Cond.code yX7_open cX7_open 4 none ∈ TW := TW_tb 605 (by decide +kernel) (by decide +kernel)
theorem w_6 : Cond.initialized "ViewCards$Spans" ∈ TW := TW_tb 6 (by decide +kernel) (by decide +kernel)
theorem w_602 : Cond.methodLink RX1 75 yX7_open ∈ TW := TW_tb 602 (by decide +kernel) (by decide +kernel)
theorem w_603 : Cond.instanceMethod yX7_open ∈ TW := TW_tb 603 (by decide +kernel) (by decide +kernel)
theorem w_604 : Cond.selects yX7_open.cls yX7_open yX7_open ∈ TW := TW_tb 604 (by decide +kernel) (by decide +kernel)
theorem w_606 : Cond.methodLink RX1 79 yX3_sameNegative ∈ TW := TW_tb 606 (by decide +kernel) (by decide +kernel)
theorem w_610 : Cond.code yX1_openPublished cX1_openPublished 5 none ∈ TW := TW_tb 610 (by decide +kernel) (by decide +kernel)
theorem w_607 : Cond.methodLink RX1 64 yX1_openPublished ∈ TW := TW_tb 607 (by decide +kernel) (by decide +kernel)
theorem w_609 : Cond.instanceMethod yX1_openPublished ∈ TW := TW_tb 609 (by decide +kernel) (by decide +kernel)
theorem ws_10 : Cond.selects yX1_openPublished.cls yX1_openPublished yX1_openPublished ∈ TW := TW_pr 10 (by decide +kernel) (by decide +kernel)
theorem w_614 : Cond.code yX7_notBehind cX7_notBehind 3 none ∈ TW := TW_tb 614 (by decide +kernel) (by decide +kernel)
theorem w_611 : Cond.methodLink RX1 93 yX7_notBehind ∈ TW := TW_tb 611 (by decide +kernel) (by decide +kernel)
theorem w_612 : Cond.instanceMethod yX7_notBehind ∈ TW := TW_tb 612 (by decide +kernel) (by decide +kernel)
theorem w_613 : Cond.selects yX7_notBehind.cls yX7_notBehind yX7_notBehind ∈ TW := TW_tb 613 (by decide +kernel) (by decide +kernel)
theorem w_618 : Cond.code yX4_isFor cX4_isFor 4 (some .boolean) ∈ TW := TW_tb 618 (by decide +kernel) (by decide +kernel)
theorem w_9 : Cond.initialized "ViewCards$Lines" ∈ TW := TW_tb 9 (by decide +kernel) (by decide +kernel)
theorem w_615 : Cond.methodLink RX1 113 yX4_isFor ∈ TW := TW_tb 615 (by decide +kernel) (by decide +kernel)
theorem w_616 : Cond.instanceMethod yX4_isFor ∈ TW := TW_tb 616 (by decide +kernel) (by decide +kernel)
theorem w_617 : Cond.selects yX4_isFor.cls yX4_isFor yX4_isFor ∈ TW := TW_tb 617 (by decide +kernel) (by decide +kernel)
theorem w_623 : Cond.code yX7_notBefore cX7_notBefore 3 none ∈ TW := TW_tb 623 (by decide +kernel) (by decide +kernel)
theorem w_620 : Cond.methodLink RX1 120 yX7_notBefore ∈ TW := TW_tb 620 (by decide +kernel) (by decide +kernel)
theorem w_621 : Cond.instanceMethod yX7_notBefore ∈ TW := TW_tb 621 (by decide +kernel) (by decide +kernel)
theorem w_622 : Cond.selects yX7_notBefore.cls yX7_notBefore yX7_notBefore ∈ TW := TW_tb 622 (by decide +kernel) (by decide +kernel)
theorem w_627 : Cond.code yX1_narrow cX1_narrow 5 (some .boolean) ∈ TW := TW_tb 627 (by decide +kernel) (by decide +kernel)
theorem w_624 : Cond.methodLink RX1 68 yX1_narrow ∈ TW := TW_tb 624 (by decide +kernel) (by decide +kernel)
theorem w_626 : Cond.instanceMethod yX1_narrow ∈ TW := TW_tb 626 (by decide +kernel) (by decide +kernel)
theorem ws_11 : Cond.selects yX1_narrow.cls yX1_narrow yX1_narrow ∈ TW := TW_pr 11 (by decide +kernel) (by decide +kernel)
theorem w_631 : Cond.code yX1_narrowByFeatures cX1_narrowByFeatures 6 none ∈ TW := TW_tb 631 (by decide +kernel) (by decide +kernel)
theorem w_628 : Cond.methodLink RX1 130 yX1_narrowByFeatures ∈ TW := TW_tb 628 (by decide +kernel) (by decide +kernel)
theorem w_630 : Cond.instanceMethod yX1_narrowByFeatures ∈ TW := TW_tb 630 (by decide +kernel) (by decide +kernel)
theorem ws_12 : Cond.selects yX1_narrowByFeatures.cls yX1_narrowByFeatures yX1_narrowByFeatures ∈ TW := TW_pr 12 (by decide +kernel) (by decide +kernel)
theorem w_636 : Cond.code yX1_isSomeEmpty cX1_isSomeEmpty 3 (some .boolean) ∈ TW := TW_tb 636 (by decide +kernel) (by decide +kernel)
theorem w_633 : Cond.methodLink RX1 72 yX1_isSomeEmpty ∈ TW := TW_tb 633 (by decide +kernel) (by decide +kernel)
theorem w_635 : Cond.instanceMethod yX1_isSomeEmpty ∈ TW := TW_tb 635 (by decide +kernel) (by decide +kernel)
theorem ws_13 : Cond.selects yX1_isSomeEmpty.cls yX1_isSomeEmpty yX1_isSomeEmpty ∈ TW := TW_pr 13 (by decide +kernel) (by decide +kernel)
theorem w_640 : Cond.code yX8_quarrel cX8_quarrel 1 (some .int) ∈ TW := TW_tb 640 (by decide +kernel) (by decide +kernel)
theorem w_637 : Cond.methodLink "ViewCardsLaw" 92 yX8_quarrel ∈ TW := TW_tb 637 (by decide +kernel) (by decide +kernel)
theorem w_638 : Cond.instanceMethod yX8_quarrel ∈ TW := TW_tb 638 (by decide +kernel) (by decide +kernel)
theorem w_639 : Cond.selects yX8_quarrel.cls yX8_quarrel yX8_quarrel ∈ TW := TW_tb 639 (by decide +kernel) (by decide +kernel)
theorem w_644 : Cond.code yX8_culprit cX8_culprit 3 (some .int) ∈ TW := TW_tb 644 (by decide +kernel) (by decide +kernel)
theorem w_641 : Cond.methodLink "ViewCardsLaw" 97 yX8_culprit ∈ TW := TW_tb 641 (by decide +kernel) (by decide +kernel)
theorem w_642 : Cond.instanceMethod yX8_culprit ∈ TW := TW_tb 642 (by decide +kernel) (by decide +kernel)
theorem w_643 : Cond.selects yX8_culprit.cls yX8_culprit yX8_culprit ∈ TW := TW_tb 643 (by decide +kernel) (by decide +kernel)
theorem w_648 : Cond.code yX8_landmark cX8_landmark 3 (some .int) ∈ TW := TW_tb 648 (by decide +kernel) (by decide +kernel)
theorem w_645 : Cond.methodLink "ViewCardsLaw" 101 yX8_landmark ∈ TW := TW_tb 645 (by decide +kernel) (by decide +kernel)
theorem w_646 : Cond.instanceMethod yX8_landmark ∈ TW := TW_tb 646 (by decide +kernel) (by decide +kernel)
theorem w_647 : Cond.selects yX8_landmark.cls yX8_landmark yX8_landmark ∈ TW := TW_tb 647 (by decide +kernel) (by decide +kernel)
theorem w_652 : Cond.code yX8_walls cX8_walls 3 (some .int) ∈ TW := TW_tb 652 (by decide +kernel) (by decide +kernel)
theorem w_649 : Cond.methodLink "ViewCardsLaw" 105 yX8_walls ∈ TW := TW_tb 649 (by decide +kernel) (by decide +kernel)
theorem w_650 : Cond.instanceMethod yX8_walls ∈ TW := TW_tb 650 (by decide +kernel) (by decide +kernel)
theorem w_651 : Cond.selects yX8_walls.cls yX8_walls yX8_walls ∈ TW := TW_tb 651 (by decide +kernel) (by decide +kernel)
theorem w_656 : Cond.code yX8_view cX8_view 3 (some .int) ∈ TW := TW_tb 656 (by decide +kernel) (by decide +kernel)
theorem w_653 : Cond.methodLink "ViewCardsLaw" 110 yX8_view ∈ TW := TW_tb 653 (by decide +kernel) (by decide +kernel)
theorem w_654 : Cond.instanceMethod yX8_view ∈ TW := TW_tb 654 (by decide +kernel) (by decide +kernel)
theorem w_655 : Cond.selects yX8_view.cls yX8_view yX8_view ∈ TW := TW_tb 655 (by decide +kernel) (by decide +kernel)
theorem w_660 : Cond.code yX2_isInView cX2_isInView 4 (some .boolean) ∈ TW := TW_tb 660 (by decide +kernel) (by decide +kernel)
theorem w_657 : Cond.methodLink RX8 271 yX2_isInView ∈ TW := TW_tb 657 (by decide +kernel) (by decide +kernel)
theorem w_658 : Cond.instanceMethod yX2_isInView ∈ TW := TW_tb 658 (by decide +kernel) (by decide +kernel)
theorem w_659 : Cond.selects yX2_isInView.cls yX2_isInView yX2_isInView ∈ TW := TW_tb 659 (by decide +kernel) (by decide +kernel)
theorem w_664 : Cond.code yX8_unview cX8_unview 3 (some .int) ∈ TW := TW_tb 664 (by decide +kernel) (by decide +kernel)
theorem w_661 : Cond.methodLink "ViewCardsLaw" 114 yX8_unview ∈ TW := TW_tb 661 (by decide +kernel) (by decide +kernel)
theorem w_662 : Cond.instanceMethod yX8_unview ∈ TW := TW_tb 662 (by decide +kernel) (by decide +kernel)
theorem w_663 : Cond.selects yX8_unview.cls yX8_unview yX8_unview ∈ TW := TW_tb 663 (by decide +kernel) (by decide +kernel)
theorem w_668 : Cond.code yX8_stood cX8_stood 2 (some .long) ∈ TW := TW_tb 668 (by decide +kernel) (by decide +kernel)
theorem w_665 : Cond.methodLink "ViewCardsLaw" 118 yX8_stood ∈ TW := TW_tb 665 (by decide +kernel) (by decide +kernel)
theorem w_666 : Cond.instanceMethod yX8_stood ∈ TW := TW_tb 666 (by decide +kernel) (by decide +kernel)
theorem w_667 : Cond.selects yX8_stood.cls yX8_stood yX8_stood ∈ TW := TW_tb 667 (by decide +kernel) (by decide +kernel)
theorem w_672 : Cond.code yX2_standing cX2_standing 7 (some .long) ∈ TW := TW_tb 672 (by decide +kernel) (by decide +kernel)
theorem w_669 : Cond.methodLink RX8 280 yX2_standing ∈ TW := TW_tb 669 (by decide +kernel) (by decide +kernel)
theorem w_670 : Cond.instanceMethod yX2_standing ∈ TW := TW_tb 670 (by decide +kernel) (by decide +kernel)
theorem w_671 : Cond.selects yX2_standing.cls yX2_standing yX2_standing ∈ TW := TW_tb 671 (by decide +kernel) (by decide +kernel)
theorem w_677 : Cond.code yX2_isOrdered cX2_isOrdered 5 (some .boolean) ∈ TW := TW_tb 677 (by decide +kernel) (by decide +kernel)
theorem w_674 : Cond.methodLink RX2 29 yX2_isOrdered ∈ TW := TW_tb 674 (by decide +kernel) (by decide +kernel)
theorem w_676 : Cond.instanceMethod yX2_isOrdered ∈ TW := TW_tb 676 (by decide +kernel) (by decide +kernel)
theorem ws_14 : Cond.selects yX2_isOrdered.cls yX2_isOrdered yX2_isOrdered ∈ TW := TW_pr 14 (by decide +kernel) (by decide +kernel)
theorem w_680 : Cond.code yX2_isLeftOf cX2_isLeftOf 7 (some .boolean) ∈ TW := TW_tb 680 (by decide +kernel) (by decide +kernel)
theorem w_678 : Cond.methodLink RX2 36 yX2_isLeftOf ∈ TW := TW_tb 678 (by decide +kernel) (by decide +kernel)
theorem w_679 : Cond.static yX2_isLeftOf ∈ TW := TW_tb 679 (by decide +kernel) (by decide +kernel)
theorem w_684 : Cond.code yX2_seesAll cX2_seesAll 4 (some .boolean) ∈ TW := TW_tb 684 (by decide +kernel) (by decide +kernel)
theorem w_681 : Cond.methodLink RX2 33 yX2_seesAll ∈ TW := TW_tb 681 (by decide +kernel) (by decide +kernel)
theorem w_683 : Cond.instanceMethod yX2_seesAll ∈ TW := TW_tb 683 (by decide +kernel) (by decide +kernel)
theorem ws_15 : Cond.selects yX2_seesAll.cls yX2_seesAll yX2_seesAll ∈ TW := TW_pr 15 (by decide +kernel) (by decide +kernel)
theorem w_688 : Cond.code yX2_sees cX2_sees 8 (some .boolean) ∈ TW := TW_tb 688 (by decide +kernel) (by decide +kernel)
theorem w_685 : Cond.methodLink RX2 40 yX2_sees ∈ TW := TW_tb 685 (by decide +kernel) (by decide +kernel)
theorem w_687 : Cond.instanceMethod yX2_sees ∈ TW := TW_tb 687 (by decide +kernel) (by decide +kernel)
theorem ws_16 : Cond.selects yX2_sees.cls yX2_sees yX2_sees ∈ TW := TW_pr 16 (by decide +kernel) (by decide +kernel)
theorem w_696 : Cond.code yX8_together cX8_together 6 (some .int) ∈ TW := TW_tb 696 (by decide +kernel) (by decide +kernel)
theorem w_693 : Cond.methodLink "ViewCardsLaw" 123 yX8_together ∈ TW := TW_tb 693 (by decide +kernel) (by decide +kernel)
theorem w_694 : Cond.instanceMethod yX8_together ∈ TW := TW_tb 694 (by decide +kernel) (by decide +kernel)
theorem w_695 : Cond.selects yX8_together.cls yX8_together yX8_together ∈ TW := TW_tb 695 (by decide +kernel) (by decide +kernel)
theorem w_698 : Cond.methodLink RX8 286 yJ13_bitCount_95d88 ∈ TW := TW_tb 698 (by decide +kernel) (by decide +kernel)
theorem w_702 : Cond.code yX8_write cX8_write 5 (some .int) ∈ TW := TW_tb 702 (by decide +kernel) (by decide +kernel)
theorem w_699 : Cond.methodLink "ViewCardsLaw" 127 yX8_write ∈ TW := TW_tb 699 (by decide +kernel) (by decide +kernel)
theorem w_700 : Cond.instanceMethod yX8_write ∈ TW := TW_tb 700 (by decide +kernel) (by decide +kernel)
theorem w_701 : Cond.selects yX8_write.cls yX8_write yX8_write ∈ TW := TW_tb 701 (by decide +kernel) (by decide +kernel)
theorem w_706 : Cond.code yX8_erase cX8_erase 2 (some .int) ∈ TW := TW_tb 706 (by decide +kernel) (by decide +kernel)
theorem w_703 : Cond.methodLink "ViewCardsLaw" 132 yX8_erase ∈ TW := TW_tb 703 (by decide +kernel) (by decide +kernel)
theorem w_704 : Cond.instanceMethod yX8_erase ∈ TW := TW_tb 704 (by decide +kernel) (by decide +kernel)
theorem w_705 : Cond.selects yX8_erase.cls yX8_erase yX8_erase ∈ TW := TW_tb 705 (by decide +kernel) (by decide +kernel)
theorem w_710 : Cond.code yX8_fault cX8_fault 1 (some .int) ∈ TW := TW_tb 710 (by decide +kernel) (by decide +kernel)
theorem w_707 : Cond.methodLink "ViewCardsLaw" 136 yX8_fault ∈ TW := TW_tb 707 (by decide +kernel) (by decide +kernel)
theorem w_708 : Cond.instanceMethod yX8_fault ∈ TW := TW_tb 708 (by decide +kernel) (by decide +kernel)
theorem w_709 : Cond.selects yX8_fault.cls yX8_fault yX8_fault ∈ TW := TW_tb 709 (by decide +kernel) (by decide +kernel)
theorem w_714 : Cond.code yX6_read cX6_read 3 (some .int) ∈ TW := TW_tb 714 (by decide +kernel) (by decide +kernel)
theorem w_8 : Cond.initialized "ViewCards$Reader" ∈ TW := TW_tb 8 (by decide +kernel) (by decide +kernel)
theorem w_711 : Cond.methodLink RX8 295 yX6_read ∈ TW := TW_tb 711 (by decide +kernel) (by decide +kernel)
theorem w_712 : Cond.instanceMethod yX6_read ∈ TW := TW_tb 712 (by decide +kernel) (by decide +kernel)
theorem w_713 : Cond.selects yX6_read.cls yX6_read yX6_read ∈ TW := TW_tb 713 (by decide +kernel) (by decide +kernel)
theorem w_718 : Cond.code yX6_goOn cX6_goOn 1 none ∈ TW := TW_tb 718 (by decide +kernel) (by decide +kernel)
theorem w_715 : Cond.methodLink RX6 27 yX6_goOn ∈ TW := TW_tb 715 (by decide +kernel) (by decide +kernel)
theorem w_717 : Cond.instanceMethod yX6_goOn ∈ TW := TW_tb 717 (by decide +kernel) (by decide +kernel)
theorem ws_17 : Cond.selects yX6_goOn.cls yX6_goOn yX6_goOn ∈ TW := TW_pr 17 (by decide +kernel) (by decide +kernel)
theorem w_722 : Cond.code yX6_isOneRow cX6_isOneRow 2 (some .boolean) ∈ TW := TW_tb 722 (by decide +kernel) (by decide +kernel)
theorem w_720 : Cond.methodLink RX6 110 yX6_isOneRow ∈ TW := TW_tb 720 (by decide +kernel) (by decide +kernel)
theorem w_721 : Cond.static yX6_isOneRow ∈ TW := TW_tb 721 (by decide +kernel) (by decide +kernel)
theorem w_730 : Cond.code yX6_readLine cX6_readLine 8 none ∈ TW := TW_tb 730 (by decide +kernel) (by decide +kernel)
theorem w_727 : Cond.methodLink RX6 30 yX6_readLine ∈ TW := TW_tb 727 (by decide +kernel) (by decide +kernel)
theorem w_729 : Cond.instanceMethod yX6_readLine ∈ TW := TW_tb 729 (by decide +kernel) (by decide +kernel)
theorem ws_18 : Cond.selects yX6_readLine.cls yX6_readLine yX6_readLine ∈ TW := TW_pr 18 (by decide +kernel) (by decide +kernel)
theorem w_735 : Cond.code yX6_readWord cX6_readWord 2 none ∈ TW := TW_tb 735 (by decide +kernel) (by decide +kernel)
theorem w_732 : Cond.methodLink RX6 49 yX6_readWord ∈ TW := TW_tb 732 (by decide +kernel) (by decide +kernel)
theorem w_734 : Cond.instanceMethod yX6_readWord ∈ TW := TW_tb 734 (by decide +kernel) (by decide +kernel)
theorem ws_19 : Cond.selects yX6_readWord.cls yX6_readWord yX6_readWord ∈ TW := TW_pr 19 (by decide +kernel) (by decide +kernel)
theorem w_739 : Cond.code yX6_isAt cX6_isAt 3 (some .boolean) ∈ TW := TW_tb 739 (by decide +kernel) (by decide +kernel)
theorem w_736 : Cond.methodLink RX6 36 yX6_isAt ∈ TW := TW_tb 736 (by decide +kernel) (by decide +kernel)
theorem w_738 : Cond.instanceMethod yX6_isAt ∈ TW := TW_tb 738 (by decide +kernel) (by decide +kernel)
theorem ws_20 : Cond.selects yX6_isAt.cls yX6_isAt yX6_isAt ∈ TW := TW_pr 20 (by decide +kernel) (by decide +kernel)
theorem w_791 : Cond.code yX6_findWrong cX6_findWrong 1 none ∈ TW := TW_tb 791 (by decide +kernel) (by decide +kernel)
theorem w_788 : Cond.methodLink RX6 44 yX6_findWrong ∈ TW := TW_tb 788 (by decide +kernel) (by decide +kernel)
theorem w_790 : Cond.instanceMethod yX6_findWrong ∈ TW := TW_tb 790 (by decide +kernel) (by decide +kernel)
theorem ws_21 : Cond.selects yX6_findWrong.cls yX6_findWrong yX6_findWrong ∈ TW := TW_pr 21 (by decide +kernel) (by decide +kernel)
theorem w_795 : Cond.code yX6_readNumber cX6_readNumber 4 (some .int) ∈ TW := TW_tb 795 (by decide +kernel) (by decide +kernel)
theorem w_792 : Cond.methodLink RX6 53 yX6_readNumber ∈ TW := TW_tb 792 (by decide +kernel) (by decide +kernel)
theorem w_794 : Cond.instanceMethod yX6_readNumber ∈ TW := TW_tb 794 (by decide +kernel) (by decide +kernel)
theorem ws_22 : Cond.selects yX6_readNumber.cls yX6_readNumber yX6_readNumber ∈ TW := TW_pr 22 (by decide +kernel) (by decide +kernel)
theorem w_799 : Cond.code yX6_numberAt cX6_numberAt 4 (some .int) ∈ TW := TW_tb 799 (by decide +kernel) (by decide +kernel)
theorem w_796 : Cond.methodLink RX6 84 yX6_numberAt ∈ TW := TW_tb 796 (by decide +kernel) (by decide +kernel)
theorem w_798 : Cond.instanceMethod yX6_numberAt ∈ TW := TW_tb 798 (by decide +kernel) (by decide +kernel)
theorem ws_23 : Cond.selects yX6_numberAt.cls yX6_numberAt yX6_numberAt ∈ TW := TW_pr 23 (by decide +kernel) (by decide +kernel)
theorem w_810 : Cond.code yX8_catalogue cX8_catalogue 2 (some .int) ∈ TW := TW_tb 810 (by decide +kernel) (by decide +kernel)
theorem w_807 : Cond.methodLink "ViewCardsLaw" 140 yX8_catalogue ∈ TW := TW_tb 807 (by decide +kernel) (by decide +kernel)
theorem w_808 : Cond.instanceMethod yX8_catalogue ∈ TW := TW_tb 808 (by decide +kernel) (by decide +kernel)
theorem w_809 : Cond.selects yX8_catalogue.cls yX8_catalogue yX8_catalogue ∈ TW := TW_tb 809 (by decide +kernel) (by decide +kernel)
theorem w_814 : Cond.code yX8_breaks cX8_breaks 7 (some .int) ∈ TW := TW_tb 814 (by decide +kernel) (by decide +kernel)
theorem w_811 : Cond.methodLink "ViewCardsLaw" 144 yX8_breaks ∈ TW := TW_tb 811 (by decide +kernel) (by decide +kernel)
theorem w_812 : Cond.instanceMethod yX8_breaks ∈ TW := TW_tb 812 (by decide +kernel) (by decide +kernel)
theorem w_813 : Cond.selects yX8_breaks.cls yX8_breaks yX8_breaks ∈ TW := TW_tb 813 (by decide +kernel) (by decide +kernel)
theorem w_815 : Cond.methodLink RX8 304 yX4_isFor ∈ TW := TW_tb 815 (by decide +kernel) (by decide +kernel)
theorem w_819 : Cond.code yX1_canBePublished cX1_canBePublished 4 (some .boolean) ∈ TW := TW_tb 819 (by decide +kernel) (by decide +kernel)
theorem w_816 : Cond.methodLink RX8 313 yX1_canBePublished ∈ TW := TW_tb 816 (by decide +kernel) (by decide +kernel)
theorem w_817 : Cond.instanceMethod yX1_canBePublished ∈ TW := TW_tb 817 (by decide +kernel) (by decide +kernel)
theorem w_818 : Cond.selects yX1_canBePublished.cls yX1_canBePublished yX1_canBePublished ∈ TW := TW_tb 818 (by decide +kernel) (by decide +kernel)
theorem w_823 : Cond.code yX8_count cX8_count 2 (some .int) ∈ TW := TW_tb 823 (by decide +kernel) (by decide +kernel)
theorem w_820 : Cond.methodLink "ViewCardsLaw" 148 yX8_count ∈ TW := TW_tb 820 (by decide +kernel) (by decide +kernel)
theorem w_821 : Cond.instanceMethod yX8_count ∈ TW := TW_tb 821 (by decide +kernel) (by decide +kernel)
theorem w_822 : Cond.selects yX8_count.cls yX8_count yX8_count ∈ TW := TW_tb 822 (by decide +kernel) (by decide +kernel)
theorem w_827 : Cond.code yX3_negatives cX3_negatives 2 (some .int) ∈ TW := TW_tb 827 (by decide +kernel) (by decide +kernel)
theorem w_824 : Cond.methodLink RX8 319 yX3_negatives ∈ TW := TW_tb 824 (by decide +kernel) (by decide +kernel)
theorem w_825 : Cond.instanceMethod yX3_negatives ∈ TW := TW_tb 825 (by decide +kernel) (by decide +kernel)
theorem w_826 : Cond.selects yX3_negatives.cls yX3_negatives yX3_negatives ∈ TW := TW_tb 826 (by decide +kernel) (by decide +kernel)
theorem w_832 : Cond.code yX9_init cX9_init 2 none ∈ TW := TW_tb 832 (by decide +kernel) (by decide +kernel)
theorem w_10 : Cond.initialized "ViewCardsModel" ∈ TW := TW_tb 10 (by decide +kernel) (by decide +kernel)
theorem w_830 : Cond.methodLink "ViewCardsLaw" 12 yX9_init ∈ TW := TW_tb 830 (by decide +kernel) (by decide +kernel)
theorem w_831 : Cond.instanceMethod yX9_init ∈ TW := TW_tb 831 (by decide +kernel) (by decide +kernel)
theorem w_985 : Cond.code yX9_card cX9_card 11 (some .int) ∈ TW := TW_tb 985 (by decide +kernel) (by decide +kernel)
theorem w_982 : Cond.methodLink "ViewCardsLaw" 19 yX9_card ∈ TW := TW_tb 982 (by decide +kernel) (by decide +kernel)
theorem w_983 : Cond.instanceMethod yX9_card ∈ TW := TW_tb 983 (by decide +kernel) (by decide +kernel)
theorem w_984 : Cond.selects yX9_card.cls yX9_card yX9_card ∈ TW := TW_tb 984 (by decide +kernel) (by decide +kernel)
theorem w_988 : Cond.code yX9_in cX9_in 3 (some .boolean) ∈ TW := TW_tb 988 (by decide +kernel) (by decide +kernel)
theorem w_986 : Cond.methodLink RX9 124 yX9_in ∈ TW := TW_tb 986 (by decide +kernel) (by decide +kernel)
theorem w_987 : Cond.static yX9_in ∈ TW := TW_tb 987 (by decide +kernel) (by decide +kernel)
theorem w_991 : Cond.code yX9_isPublisher cX9_isPublisher 1 (some .boolean) ∈ TW := TW_tb 991 (by decide +kernel) (by decide +kernel)
theorem w_989 : Cond.methodLink RX9 128 yX9_isPublisher ∈ TW := TW_tb 989 (by decide +kernel) (by decide +kernel)
theorem w_990 : Cond.static yX9_isPublisher ∈ TW := TW_tb 990 (by decide +kernel) (by decide +kernel)
theorem w_995 : Cond.code yX9_caption cX9_caption 6 (some .int) ∈ TW := TW_tb 995 (by decide +kernel) (by decide +kernel)
theorem w_992 : Cond.methodLink "ViewCardsLaw" 24 yX9_caption ∈ TW := TW_tb 992 (by decide +kernel) (by decide +kernel)
theorem w_993 : Cond.instanceMethod yX9_caption ∈ TW := TW_tb 993 (by decide +kernel) (by decide +kernel)
theorem w_994 : Cond.selects yX9_caption.cls yX9_caption yX9_caption ∈ TW := TW_tb 994 (by decide +kernel) (by decide +kernel)
theorem w_999 : Cond.code yX9_isThere cX9_isThere 2 (some .boolean) ∈ TW := TW_tb 999 (by decide +kernel) (by decide +kernel)
theorem w_996 : Cond.methodLink RX9 135 yX9_isThere ∈ TW := TW_tb 996 (by decide +kernel) (by decide +kernel)
theorem w_998 : Cond.instanceMethod yX9_isThere ∈ TW := TW_tb 998 (by decide +kernel) (by decide +kernel)
theorem ws_24 : Cond.selects yX9_isThere.cls yX9_isThere yX9_isThere ∈ TW := TW_pr 24 (by decide +kernel) (by decide +kernel)
theorem w_1003 : Cond.code yX9_thereMany cX9_thereMany 2 (some .int) ∈ TW := TW_tb 1003 (by decide +kernel) (by decide +kernel)
theorem w_1000 : Cond.methodLink RX9 120 yX9_thereMany ∈ TW := TW_tb 1000 (by decide +kernel) (by decide +kernel)
theorem w_1002 : Cond.instanceMethod yX9_thereMany ∈ TW := TW_tb 1002 (by decide +kernel) (by decide +kernel)
theorem ws_25 : Cond.selects yX9_thereMany.cls yX9_thereMany yX9_thereMany ∈ TW := TW_pr 25 (by decide +kernel) (by decide +kernel)
theorem w_1008 : Cond.code yX9_days cX9_days 2 (some .int) ∈ TW := TW_tb 1008 (by decide +kernel) (by decide +kernel)
theorem w_1005 : Cond.methodLink "ViewCardsLaw" 29 yX9_days ∈ TW := TW_tb 1005 (by decide +kernel) (by decide +kernel)
theorem w_1006 : Cond.instanceMethod yX9_days ∈ TW := TW_tb 1006 (by decide +kernel) (by decide +kernel)
theorem w_1007 : Cond.selects yX9_days.cls yX9_days yX9_days ∈ TW := TW_tb 1007 (by decide +kernel) (by decide +kernel)
theorem w_1012 : Cond.code yX9_set cX9_set 4 (some .int) ∈ TW := TW_tb 1012 (by decide +kernel) (by decide +kernel)
theorem w_1009 : Cond.methodLink "ViewCardsLaw" 34 yX9_set ∈ TW := TW_tb 1009 (by decide +kernel) (by decide +kernel)
theorem w_1010 : Cond.instanceMethod yX9_set ∈ TW := TW_tb 1010 (by decide +kernel) (by decide +kernel)
theorem w_1011 : Cond.selects yX9_set.cls yX9_set yX9_set ∈ TW := TW_tb 1011 (by decide +kernel) (by decide +kernel)
theorem w_1016 : Cond.code yX9_difference cX9_difference 3 (some .int) ∈ TW := TW_tb 1016 (by decide +kernel) (by decide +kernel)
theorem w_1013 : Cond.methodLink "ViewCardsLaw" 38 yX9_difference ∈ TW := TW_tb 1013 (by decide +kernel) (by decide +kernel)
theorem w_1014 : Cond.instanceMethod yX9_difference ∈ TW := TW_tb 1014 (by decide +kernel) (by decide +kernel)
theorem w_1015 : Cond.selects yX9_difference.cls yX9_difference yX9_difference ∈ TW := TW_tb 1015 (by decide +kernel) (by decide +kernel)
theorem w_1020 : Cond.code yX9_unlikeOf cX9_unlikeOf 6 (some .int) ∈ TW := TW_tb 1020 (by decide +kernel) (by decide +kernel)
theorem w_1017 : Cond.methodLink RX9 148 yX9_unlikeOf ∈ TW := TW_tb 1017 (by decide +kernel) (by decide +kernel)
theorem w_1019 : Cond.instanceMethod yX9_unlikeOf ∈ TW := TW_tb 1019 (by decide +kernel) (by decide +kernel)
theorem ws_26 : Cond.selects yX9_unlikeOf.cls yX9_unlikeOf yX9_unlikeOf ∈ TW := TW_pr 26 (by decide +kernel) (by decide +kernel)
theorem w_1024 : Cond.code yX9_unlikeBy cX9_unlikeBy 9 (some .int) ∈ TW := TW_tb 1024 (by decide +kernel) (by decide +kernel)
theorem w_1021 : Cond.methodLink RX9 144 yX9_unlikeBy ∈ TW := TW_tb 1021 (by decide +kernel) (by decide +kernel)
theorem w_1023 : Cond.instanceMethod yX9_unlikeBy ∈ TW := TW_tb 1023 (by decide +kernel) (by decide +kernel)
theorem ws_27 : Cond.selects yX9_unlikeBy.cls yX9_unlikeBy yX9_unlikeBy ∈ TW := TW_pr 27 (by decide +kernel) (by decide +kernel)
theorem w_1027 : Cond.code yX9_bit cX9_bit 4 (some .int) ∈ TW := TW_tb 1027 (by decide +kernel) (by decide +kernel)
theorem w_1025 : Cond.methodLink RX9 140 yX9_bit ∈ TW := TW_tb 1025 (by decide +kernel) (by decide +kernel)
theorem w_1026 : Cond.static yX9_bit ∈ TW := TW_tb 1026 (by decide +kernel) (by decide +kernel)
theorem w_1031 : Cond.code yX9_far cX9_far 3 (some .int) ∈ TW := TW_tb 1031 (by decide +kernel) (by decide +kernel)
theorem w_1028 : Cond.methodLink "ViewCardsLaw" 46 yX9_far ∈ TW := TW_tb 1028 (by decide +kernel) (by decide +kernel)
theorem w_1029 : Cond.instanceMethod yX9_far ∈ TW := TW_tb 1029 (by decide +kernel) (by decide +kernel)
theorem w_1030 : Cond.selects yX9_far.cls yX9_far yX9_far ∈ TW := TW_tb 1030 (by decide +kernel) (by decide +kernel)
theorem w_1035 : Cond.code yX9_farOf cX9_farOf 6 (some .int) ∈ TW := TW_tb 1035 (by decide +kernel) (by decide +kernel)
theorem w_1032 : Cond.methodLink RX9 152 yX9_farOf ∈ TW := TW_tb 1032 (by decide +kernel) (by decide +kernel)
theorem w_1034 : Cond.instanceMethod yX9_farOf ∈ TW := TW_tb 1034 (by decide +kernel) (by decide +kernel)
theorem ws_28 : Cond.selects yX9_farOf.cls yX9_farOf yX9_farOf ∈ TW := TW_pr 28 (by decide +kernel) (by decide +kernel)
theorem w_1039 : Cond.code yX9_match cX9_match 3 (some .int) ∈ TW := TW_tb 1039 (by decide +kernel) (by decide +kernel)
theorem w_1036 : Cond.methodLink "ViewCardsLaw" 50 yX9_match ∈ TW := TW_tb 1036 (by decide +kernel) (by decide +kernel)
theorem w_1037 : Cond.instanceMethod yX9_match ∈ TW := TW_tb 1037 (by decide +kernel) (by decide +kernel)
theorem w_1038 : Cond.selects yX9_match.cls yX9_match yX9_match ∈ TW := TW_tb 1038 (by decide +kernel) (by decide +kernel)
theorem w_1043 : Cond.code yX9_findUnlike cX9_findUnlike 3 none ∈ TW := TW_tb 1043 (by decide +kernel) (by decide +kernel)
theorem w_1040 : Cond.methodLink RX9 162 yX9_findUnlike ∈ TW := TW_tb 1040 (by decide +kernel) (by decide +kernel)
theorem w_1042 : Cond.instanceMethod yX9_findUnlike ∈ TW := TW_tb 1042 (by decide +kernel) (by decide +kernel)
theorem ws_29 : Cond.selects yX9_findUnlike.cls yX9_findUnlike yX9_findUnlike ∈ TW := TW_pr 29 (by decide +kernel) (by decide +kernel)
theorem w_1047 : Cond.code yX9_isMatch cX9_isMatch 4 (some .boolean) ∈ TW := TW_tb 1047 (by decide +kernel) (by decide +kernel)
theorem w_1044 : Cond.methodLink RX9 159 yX9_isMatch ∈ TW := TW_tb 1044 (by decide +kernel) (by decide +kernel)
theorem w_1046 : Cond.instanceMethod yX9_isMatch ∈ TW := TW_tb 1046 (by decide +kernel) (by decide +kernel)
theorem ws_30 : Cond.selects yX9_isMatch.cls yX9_isMatch yX9_isMatch ∈ TW := TW_pr 30 (by decide +kernel) (by decide +kernel)
theorem w_1051 : Cond.code yX9_isLike cX9_isLike 3 (some .boolean) ∈ TW := TW_tb 1051 (by decide +kernel) (by decide +kernel)
theorem w_1048 : Cond.methodLink RX9 155 yX9_isLike ∈ TW := TW_tb 1048 (by decide +kernel) (by decide +kernel)
theorem w_1050 : Cond.instanceMethod yX9_isLike ∈ TW := TW_tb 1050 (by decide +kernel) (by decide +kernel)
theorem ws_31 : Cond.selects yX9_isLike.cls yX9_isLike yX9_isLike ∈ TW := TW_pr 31 (by decide +kernel) (by decide +kernel)
theorem w_1055 : Cond.code yX9_negative cX9_negative 2 (some .int) ∈ TW := TW_tb 1055 (by decide +kernel) (by decide +kernel)
theorem w_1052 : Cond.methodLink "ViewCardsLaw" 42 yX9_negative ∈ TW := TW_tb 1052 (by decide +kernel) (by decide +kernel)
theorem w_1053 : Cond.instanceMethod yX9_negative ∈ TW := TW_tb 1053 (by decide +kernel) (by decide +kernel)
theorem w_1054 : Cond.selects yX9_negative.cls yX9_negative yX9_negative ∈ TW := TW_tb 1054 (by decide +kernel) (by decide +kernel)
theorem w_1059 : Cond.code yX9_findChains cX9_findChains 11 none ∈ TW := TW_tb 1059 (by decide +kernel) (by decide +kernel)
theorem w_1056 : Cond.methodLink RX9 165 yX9_findChains ∈ TW := TW_tb 1056 (by decide +kernel) (by decide +kernel)
theorem w_1058 : Cond.instanceMethod yX9_findChains ∈ TW := TW_tb 1058 (by decide +kernel) (by decide +kernel)
theorem ws_32 : Cond.selects yX9_findChains.cls yX9_findChains yX9_findChains ∈ TW := TW_pr 32 (by decide +kernel) (by decide +kernel)
theorem w_1063 : Cond.code yX9_of cX9_of 5 (some .int) ∈ TW := TW_tb 1063 (by decide +kernel) (by decide +kernel)
theorem w_1060 : Cond.methodLink "ViewCardsLaw" 54 yX9_of ∈ TW := TW_tb 1060 (by decide +kernel) (by decide +kernel)
theorem w_1061 : Cond.instanceMethod yX9_of ∈ TW := TW_tb 1061 (by decide +kernel) (by decide +kernel)
theorem w_1062 : Cond.selects yX9_of.cls yX9_of yX9_of ∈ TW := TW_tb 1062 (by decide +kernel) (by decide +kernel)
theorem w_1066 : Cond.code yX9_bits cX9_bits 3 (some .int) ∈ TW := TW_tb 1066 (by decide +kernel) (by decide +kernel)
theorem w_1064 : Cond.methodLink RX9 173 yX9_bits ∈ TW := TW_tb 1064 (by decide +kernel) (by decide +kernel)
theorem w_1065 : Cond.static yX9_bits ∈ TW := TW_tb 1065 (by decide +kernel) (by decide +kernel)
theorem w_1070 : Cond.code yX9_listsOf cX9_listsOf 4 (some .int) ∈ TW := TW_tb 1070 (by decide +kernel) (by decide +kernel)
theorem w_1067 : Cond.methodLink RX9 169 yX9_listsOf ∈ TW := TW_tb 1067 (by decide +kernel) (by decide +kernel)
theorem w_1069 : Cond.instanceMethod yX9_listsOf ∈ TW := TW_tb 1069 (by decide +kernel) (by decide +kernel)
theorem ws_33 : Cond.selects yX9_listsOf.cls yX9_listsOf yX9_listsOf ∈ TW := TW_pr 33 (by decide +kernel) (by decide +kernel)
theorem w_1074 : Cond.code yX9_rivalsOf cX9_rivalsOf 6 (some .int) ∈ TW := TW_tb 1074 (by decide +kernel) (by decide +kernel)
theorem w_1071 : Cond.methodLink RX9 179 yX9_rivalsOf ∈ TW := TW_tb 1071 (by decide +kernel) (by decide +kernel)
theorem w_1073 : Cond.instanceMethod yX9_rivalsOf ∈ TW := TW_tb 1073 (by decide +kernel) (by decide +kernel)
theorem ws_34 : Cond.selects yX9_rivalsOf.cls yX9_rivalsOf yX9_rivalsOf ∈ TW := TW_pr 34 (by decide +kernel) (by decide +kernel)
theorem w_1078 : Cond.code yX9_priceOf cX9_priceOf 5 (some .int) ∈ TW := TW_tb 1078 (by decide +kernel) (by decide +kernel)
theorem w_1075 : Cond.methodLink RX9 182 yX9_priceOf ∈ TW := TW_tb 1075 (by decide +kernel) (by decide +kernel)
theorem w_1077 : Cond.instanceMethod yX9_priceOf ∈ TW := TW_tb 1077 (by decide +kernel) (by decide +kernel)
theorem ws_35 : Cond.selects yX9_priceOf.cls yX9_priceOf yX9_priceOf ∈ TW := TW_pr 35 (by decide +kernel) (by decide +kernel)
theorem w_1082 : Cond.code yX9_isMissing cX9_isMissing 3 (some .boolean) ∈ TW := TW_tb 1082 (by decide +kernel) (by decide +kernel)
theorem w_1079 : Cond.methodLink RX9 176 yX9_isMissing ∈ TW := TW_tb 1079 (by decide +kernel) (by decide +kernel)
theorem w_1081 : Cond.instanceMethod yX9_isMissing ∈ TW := TW_tb 1081 (by decide +kernel) (by decide +kernel)
theorem ws_36 : Cond.selects yX9_isMissing.cls yX9_isMissing yX9_isMissing ∈ TW := TW_pr 36 (by decide +kernel) (by decide +kernel)
theorem w_1086 : Cond.code yX9_endOf cX9_endOf 4 (some .int) ∈ TW := TW_tb 1086 (by decide +kernel) (by decide +kernel)
theorem w_1083 : Cond.methodLink RX9 188 yX9_endOf ∈ TW := TW_tb 1083 (by decide +kernel) (by decide +kernel)
theorem w_1085 : Cond.instanceMethod yX9_endOf ∈ TW := TW_tb 1085 (by decide +kernel) (by decide +kernel)
theorem ws_37 : Cond.selects yX9_endOf.cls yX9_endOf yX9_endOf ∈ TW := TW_pr 37 (by decide +kernel) (by decide +kernel)
theorem w_1090 : Cond.code yX9_hasNumber cX9_hasNumber 5 (some .boolean) ∈ TW := TW_tb 1090 (by decide +kernel) (by decide +kernel)
theorem w_1087 : Cond.methodLink RX9 185 yX9_hasNumber ∈ TW := TW_tb 1087 (by decide +kernel) (by decide +kernel)
theorem w_1089 : Cond.instanceMethod yX9_hasNumber ∈ TW := TW_tb 1089 (by decide +kernel) (by decide +kernel)
theorem ws_38 : Cond.selects yX9_hasNumber.cls yX9_hasNumber yX9_hasNumber ∈ TW := TW_pr 38 (by decide +kernel) (by decide +kernel)
theorem w_1094 : Cond.code yX9_series cX9_series 9 (some .int) ∈ TW := TW_tb 1094 (by decide +kernel) (by decide +kernel)
theorem w_1091 : Cond.methodLink "ViewCardsLaw" 58 yX9_series ∈ TW := TW_tb 1091 (by decide +kernel) (by decide +kernel)
theorem w_1092 : Cond.instanceMethod yX9_series ∈ TW := TW_tb 1092 (by decide +kernel) (by decide +kernel)
theorem w_1093 : Cond.selects yX9_series.cls yX9_series yX9_series ∈ TW := TW_tb 1093 (by decide +kernel) (by decide +kernel)
theorem w_1098 : Cond.code yX9_gap cX9_gap 6 (some .int) ∈ TW := TW_tb 1098 (by decide +kernel) (by decide +kernel)
theorem w_1095 : Cond.methodLink "ViewCardsLaw" 62 yX9_gap ∈ TW := TW_tb 1095 (by decide +kernel) (by decide +kernel)
theorem w_1096 : Cond.instanceMethod yX9_gap ∈ TW := TW_tb 1096 (by decide +kernel) (by decide +kernel)
theorem w_1097 : Cond.selects yX9_gap.cls yX9_gap yX9_gap ∈ TW := TW_tb 1097 (by decide +kernel) (by decide +kernel)
theorem w_1102 : Cond.code yX9_unseen cX9_unseen 6 (some .int) ∈ TW := TW_tb 1102 (by decide +kernel) (by decide +kernel)
theorem w_1099 : Cond.methodLink "ViewCardsLaw" 66 yX9_unseen ∈ TW := TW_tb 1099 (by decide +kernel) (by decide +kernel)
theorem w_1100 : Cond.instanceMethod yX9_unseen ∈ TW := TW_tb 1100 (by decide +kernel) (by decide +kernel)
theorem w_1101 : Cond.selects yX9_unseen.cls yX9_unseen yX9_unseen ∈ TW := TW_tb 1101 (by decide +kernel) (by decide +kernel)
theorem w_1105 : Cond.code yX9_lowest cX9_lowest 4 (some .int) ∈ TW := TW_tb 1105 (by decide +kernel) (by decide +kernel)
theorem w_1103 : Cond.methodLink RX9 194 yX9_lowest ∈ TW := TW_tb 1103 (by decide +kernel) (by decide +kernel)
theorem w_1104 : Cond.static yX9_lowest ∈ TW := TW_tb 1104 (by decide +kernel) (by decide +kernel)
theorem w_1108 : Cond.code yX9_common cX9_common 5 (some .int) ∈ TW := TW_tb 1108 (by decide +kernel) (by decide +kernel)
theorem w_1106 : Cond.methodLink RX9 191 yX9_common ∈ TW := TW_tb 1106 (by decide +kernel) (by decide +kernel)
theorem w_1107 : Cond.static yX9_common ∈ TW := TW_tb 1107 (by decide +kernel) (by decide +kernel)
theorem w_1112 : Cond.code yX9_overlap cX9_overlap 9 (some .int) ∈ TW := TW_tb 1112 (by decide +kernel) (by decide +kernel)
theorem w_1109 : Cond.methodLink "ViewCardsLaw" 71 yX9_overlap ∈ TW := TW_tb 1109 (by decide +kernel) (by decide +kernel)
theorem w_1110 : Cond.instanceMethod yX9_overlap ∈ TW := TW_tb 1110 (by decide +kernel) (by decide +kernel)
theorem w_1111 : Cond.selects yX9_overlap.cls yX9_overlap yX9_overlap ∈ TW := TW_tb 1111 (by decide +kernel) (by decide +kernel)
theorem w_1116 : Cond.code yX9_feature cX9_feature 4 (some .int) ∈ TW := TW_tb 1116 (by decide +kernel) (by decide +kernel)
theorem w_1113 : Cond.methodLink "ViewCardsLaw" 75 yX9_feature ∈ TW := TW_tb 1113 (by decide +kernel) (by decide +kernel)
theorem w_1114 : Cond.instanceMethod yX9_feature ∈ TW := TW_tb 1114 (by decide +kernel) (by decide +kernel)
theorem w_1115 : Cond.selects yX9_feature.cls yX9_feature yX9_feature ∈ TW := TW_tb 1115 (by decide +kernel) (by decide +kernel)
theorem w_1119 : Cond.code yX9_isDay cX9_isDay 1 (some .boolean) ∈ TW := TW_tb 1119 (by decide +kernel) (by decide +kernel)
theorem w_1117 : Cond.methodLink RX9 198 yX9_isDay ∈ TW := TW_tb 1117 (by decide +kernel) (by decide +kernel)
theorem w_1118 : Cond.static yX9_isDay ∈ TW := TW_tb 1118 (by decide +kernel) (by decide +kernel)
theorem w_1123 : Cond.code yX9_shows cX9_shows 5 (some .int) ∈ TW := TW_tb 1123 (by decide +kernel) (by decide +kernel)
theorem w_1120 : Cond.methodLink "ViewCardsLaw" 79 yX9_shows ∈ TW := TW_tb 1120 (by decide +kernel) (by decide +kernel)
theorem w_1121 : Cond.instanceMethod yX9_shows ∈ TW := TW_tb 1121 (by decide +kernel) (by decide +kernel)
theorem w_1122 : Cond.selects yX9_shows.cls yX9_shows yX9_shows ∈ TW := TW_tb 1122 (by decide +kernel) (by decide +kernel)
theorem w_1127 : Cond.code yX9_back cX9_back 4 (some .int) ∈ TW := TW_tb 1127 (by decide +kernel) (by decide +kernel)
theorem w_1124 : Cond.methodLink "ViewCardsLaw" 83 yX9_back ∈ TW := TW_tb 1124 (by decide +kernel) (by decide +kernel)
theorem w_1125 : Cond.instanceMethod yX9_back ∈ TW := TW_tb 1125 (by decide +kernel) (by decide +kernel)
theorem w_1126 : Cond.selects yX9_back.cls yX9_back yX9_back ∈ TW := TW_tb 1126 (by decide +kernel) (by decide +kernel)
theorem w_1131 : Cond.code yX9_later cX9_later 3 (some .int) ∈ TW := TW_tb 1131 (by decide +kernel) (by decide +kernel)
theorem w_1128 : Cond.methodLink "ViewCardsLaw" 87 yX9_later ∈ TW := TW_tb 1128 (by decide +kernel) (by decide +kernel)
theorem w_1129 : Cond.instanceMethod yX9_later ∈ TW := TW_tb 1129 (by decide +kernel) (by decide +kernel)
theorem w_1130 : Cond.selects yX9_later.cls yX9_later yX9_later ∈ TW := TW_tb 1130 (by decide +kernel) (by decide +kernel)
theorem w_1135 : Cond.code yX9_span cX9_span 4 (some .int) ∈ TW := TW_tb 1135 (by decide +kernel) (by decide +kernel)
theorem w_1132 : Cond.methodLink "ViewCardsLaw" 91 yX9_span ∈ TW := TW_tb 1132 (by decide +kernel) (by decide +kernel)
theorem w_1133 : Cond.instanceMethod yX9_span ∈ TW := TW_tb 1133 (by decide +kernel) (by decide +kernel)
theorem w_1134 : Cond.selects yX9_span.cls yX9_span yX9_span ∈ TW := TW_tb 1134 (by decide +kernel) (by decide +kernel)
theorem w_1139 : Cond.code yX9_areSpans cX9_areSpans 6 (some .boolean) ∈ TW := TW_tb 1139 (by decide +kernel) (by decide +kernel)
theorem w_1136 : Cond.methodLink RX9 228 yX9_areSpans ∈ TW := TW_tb 1136 (by decide +kernel) (by decide +kernel)
theorem w_1138 : Cond.instanceMethod yX9_areSpans ∈ TW := TW_tb 1138 (by decide +kernel) (by decide +kernel)
theorem ws_39 : Cond.selects yX9_areSpans.cls yX9_areSpans yX9_areSpans ∈ TW := TW_pr 39 (by decide +kernel) (by decide +kernel)
theorem w_1143 : Cond.code yX9_isEmpty cX9_isEmpty 4 (some .boolean) ∈ TW := TW_tb 1143 (by decide +kernel) (by decide +kernel)
theorem w_1140 : Cond.methodLink RX9 221 yX9_isEmpty ∈ TW := TW_tb 1140 (by decide +kernel) (by decide +kernel)
theorem w_1142 : Cond.instanceMethod yX9_isEmpty ∈ TW := TW_tb 1142 (by decide +kernel) (by decide +kernel)
theorem ws_40 : Cond.selects yX9_isEmpty.cls yX9_isEmpty yX9_isEmpty ∈ TW := TW_pr 40 (by decide +kernel) (by decide +kernel)
theorem w_1147 : Cond.code yX9_narrow cX9_narrow 5 none ∈ TW := TW_tb 1147 (by decide +kernel) (by decide +kernel)
theorem w_1144 : Cond.methodLink RX9 224 yX9_narrow ∈ TW := TW_tb 1144 (by decide +kernel) (by decide +kernel)
theorem w_1146 : Cond.instanceMethod yX9_narrow ∈ TW := TW_tb 1146 (by decide +kernel) (by decide +kernel)
theorem ws_41 : Cond.selects yX9_narrow.cls yX9_narrow yX9_narrow ∈ TW := TW_pr 41 (by decide +kernel) (by decide +kernel)
theorem w_1151 : Cond.code yX9_takenIn cX9_takenIn 4 none ∈ TW := TW_tb 1151 (by decide +kernel) (by decide +kernel)
theorem w_1148 : Cond.methodLink RX9 208 yX9_takenIn ∈ TW := TW_tb 1148 (by decide +kernel) (by decide +kernel)
theorem w_1150 : Cond.instanceMethod yX9_takenIn ∈ TW := TW_tb 1150 (by decide +kernel) (by decide +kernel)
theorem ws_42 : Cond.selects yX9_takenIn.cls yX9_takenIn yX9_takenIn ∈ TW := TW_pr 42 (by decide +kernel) (by decide +kernel)
theorem w_1155 : Cond.code yX9_outIn cX9_outIn 4 none ∈ TW := TW_tb 1155 (by decide +kernel) (by decide +kernel)
theorem w_1152 : Cond.methodLink RX9 212 yX9_outIn ∈ TW := TW_tb 1152 (by decide +kernel) (by decide +kernel)
theorem w_1154 : Cond.instanceMethod yX9_outIn ∈ TW := TW_tb 1154 (by decide +kernel) (by decide +kernel)
theorem ws_43 : Cond.selects yX9_outIn.cls yX9_outIn yX9_outIn ∈ TW := TW_pr 43 (by decide +kernel) (by decide +kernel)
theorem w_1159 : Cond.code yX9_isOf cX9_isOf 3 (some .boolean) ∈ TW := TW_tb 1159 (by decide +kernel) (by decide +kernel)
theorem w_1156 : Cond.methodLink RX9 218 yX9_isOf ∈ TW := TW_tb 1156 (by decide +kernel) (by decide +kernel)
theorem w_1158 : Cond.instanceMethod yX9_isOf ∈ TW := TW_tb 1158 (by decide +kernel) (by decide +kernel)
theorem ws_44 : Cond.selects yX9_isOf.cls yX9_isOf yX9_isOf ∈ TW := TW_pr 44 (by decide +kernel) (by decide +kernel)
theorem w_1163 : Cond.code yX9_quarrel cX9_quarrel 1 (some .int) ∈ TW := TW_tb 1163 (by decide +kernel) (by decide +kernel)
theorem w_1160 : Cond.methodLink "ViewCardsLaw" 96 yX9_quarrel ∈ TW := TW_tb 1160 (by decide +kernel) (by decide +kernel)
theorem w_1161 : Cond.instanceMethod yX9_quarrel ∈ TW := TW_tb 1161 (by decide +kernel) (by decide +kernel)
theorem w_1162 : Cond.selects yX9_quarrel.cls yX9_quarrel yX9_quarrel ∈ TW := TW_tb 1162 (by decide +kernel) (by decide +kernel)
theorem w_1167 : Cond.code yX9_culprit cX9_culprit 2 (some .int) ∈ TW := TW_tb 1167 (by decide +kernel) (by decide +kernel)
theorem w_1164 : Cond.methodLink "ViewCardsLaw" 100 yX9_culprit ∈ TW := TW_tb 1164 (by decide +kernel) (by decide +kernel)
theorem w_1165 : Cond.instanceMethod yX9_culprit ∈ TW := TW_tb 1165 (by decide +kernel) (by decide +kernel)
theorem w_1166 : Cond.selects yX9_culprit.cls yX9_culprit yX9_culprit ∈ TW := TW_tb 1166 (by decide +kernel) (by decide +kernel)
theorem w_1171 : Cond.code yX9_landmark cX9_landmark 3 (some .int) ∈ TW := TW_tb 1171 (by decide +kernel) (by decide +kernel)
theorem w_1168 : Cond.methodLink "ViewCardsLaw" 104 yX9_landmark ∈ TW := TW_tb 1168 (by decide +kernel) (by decide +kernel)
theorem w_1169 : Cond.instanceMethod yX9_landmark ∈ TW := TW_tb 1169 (by decide +kernel) (by decide +kernel)
theorem w_1170 : Cond.selects yX9_landmark.cls yX9_landmark yX9_landmark ∈ TW := TW_tb 1170 (by decide +kernel) (by decide +kernel)
theorem w_1175 : Cond.code yX9_walls cX9_walls 3 (some .int) ∈ TW := TW_tb 1175 (by decide +kernel) (by decide +kernel)
theorem w_1172 : Cond.methodLink "ViewCardsLaw" 109 yX9_walls ∈ TW := TW_tb 1172 (by decide +kernel) (by decide +kernel)
theorem w_1173 : Cond.instanceMethod yX9_walls ∈ TW := TW_tb 1173 (by decide +kernel) (by decide +kernel)
theorem w_1174 : Cond.selects yX9_walls.cls yX9_walls yX9_walls ∈ TW := TW_tb 1174 (by decide +kernel) (by decide +kernel)
theorem w_1179 : Cond.code yX9_view cX9_view 4 (some .int) ∈ TW := TW_tb 1179 (by decide +kernel) (by decide +kernel)
theorem w_1176 : Cond.methodLink "ViewCardsLaw" 113 yX9_view ∈ TW := TW_tb 1176 (by decide +kernel) (by decide +kernel)
theorem w_1177 : Cond.instanceMethod yX9_view ∈ TW := TW_tb 1177 (by decide +kernel) (by decide +kernel)
theorem w_1178 : Cond.selects yX9_view.cls yX9_view yX9_view ∈ TW := TW_tb 1178 (by decide +kernel) (by decide +kernel)
theorem w_1183 : Cond.code yX9_unview cX9_unview 3 (some .int) ∈ TW := TW_tb 1183 (by decide +kernel) (by decide +kernel)
theorem w_1180 : Cond.methodLink "ViewCardsLaw" 117 yX9_unview ∈ TW := TW_tb 1180 (by decide +kernel) (by decide +kernel)
theorem w_1181 : Cond.instanceMethod yX9_unview ∈ TW := TW_tb 1181 (by decide +kernel) (by decide +kernel)
theorem w_1182 : Cond.selects yX9_unview.cls yX9_unview yX9_unview ∈ TW := TW_tb 1182 (by decide +kernel) (by decide +kernel)
theorem w_1187 : Cond.code yX9_stood cX9_stood 2 (some .long) ∈ TW := TW_tb 1187 (by decide +kernel) (by decide +kernel)
theorem w_1184 : Cond.methodLink "ViewCardsLaw" 122 yX9_stood ∈ TW := TW_tb 1184 (by decide +kernel) (by decide +kernel)
theorem w_1185 : Cond.instanceMethod yX9_stood ∈ TW := TW_tb 1185 (by decide +kernel) (by decide +kernel)
theorem w_1186 : Cond.selects yX9_stood.cls yX9_stood yX9_stood ∈ TW := TW_tb 1186 (by decide +kernel) (by decide +kernel)
theorem w_1191 : Cond.code yX9_stoodOf cX9_stoodOf 5 (some .long) ∈ TW := TW_tb 1191 (by decide +kernel) (by decide +kernel)
theorem w_1188 : Cond.methodLink RX9 248 yX9_stoodOf ∈ TW := TW_tb 1188 (by decide +kernel) (by decide +kernel)
theorem w_1190 : Cond.instanceMethod yX9_stoodOf ∈ TW := TW_tb 1190 (by decide +kernel) (by decide +kernel)
theorem ws_45 : Cond.selects yX9_stoodOf.cls yX9_stoodOf yX9_stoodOf ∈ TW := TW_pr 45 (by decide +kernel) (by decide +kernel)
theorem w_1195 : Cond.code yX9_mayStand cX9_mayStand 8 (some .boolean) ∈ TW := TW_tb 1195 (by decide +kernel) (by decide +kernel)
theorem w_1192 : Cond.methodLink RX9 245 yX9_mayStand ∈ TW := TW_tb 1192 (by decide +kernel) (by decide +kernel)
theorem w_1194 : Cond.instanceMethod yX9_mayStand ∈ TW := TW_tb 1194 (by decide +kernel) (by decide +kernel)
theorem ws_46 : Cond.selects yX9_mayStand.cls yX9_mayStand yX9_mayStand ∈ TW := TW_pr 46 (by decide +kernel) (by decide +kernel)
theorem w_1199 : Cond.code yX9_isWall cX9_isWall 2 (some .boolean) ∈ TW := TW_tb 1199 (by decide +kernel) (by decide +kernel)
theorem w_1196 : Cond.methodLink RX9 236 yX9_isWall ∈ TW := TW_tb 1196 (by decide +kernel) (by decide +kernel)
theorem w_1198 : Cond.instanceMethod yX9_isWall ∈ TW := TW_tb 1198 (by decide +kernel) (by decide +kernel)
theorem ws_47 : Cond.selects yX9_isWall.cls yX9_isWall yX9_isWall ∈ TW := TW_pr 47 (by decide +kernel) (by decide +kernel)
theorem w_1203 : Cond.code yX9_isSeen cX9_isSeen 8 (some .boolean) ∈ TW := TW_tb 1203 (by decide +kernel) (by decide +kernel)
theorem w_1200 : Cond.methodLink RX9 239 yX9_isSeen ∈ TW := TW_tb 1200 (by decide +kernel) (by decide +kernel)
theorem w_1202 : Cond.instanceMethod yX9_isSeen ∈ TW := TW_tb 1202 (by decide +kernel) (by decide +kernel)
theorem ws_48 : Cond.selects yX9_isSeen.cls yX9_isSeen yX9_isSeen ∈ TW := TW_pr 48 (by decide +kernel) (by decide +kernel)
theorem w_1207 : Cond.code yX9_isOrdered cX9_isOrdered 8 (some .boolean) ∈ TW := TW_tb 1207 (by decide +kernel) (by decide +kernel)
theorem w_1204 : Cond.methodLink RX9 242 yX9_isOrdered ∈ TW := TW_tb 1204 (by decide +kernel) (by decide +kernel)
theorem w_1206 : Cond.instanceMethod yX9_isOrdered ∈ TW := TW_tb 1206 (by decide +kernel) (by decide +kernel)
theorem ws_49 : Cond.selects yX9_isOrdered.cls yX9_isOrdered yX9_isOrdered ∈ TW := TW_pr 49 (by decide +kernel) (by decide +kernel)
theorem w_1211 : Cond.code yX9_together cX9_together 6 (some .int) ∈ TW := TW_tb 1211 (by decide +kernel) (by decide +kernel)
theorem w_1208 : Cond.methodLink "ViewCardsLaw" 126 yX9_together ∈ TW := TW_tb 1208 (by decide +kernel) (by decide +kernel)
theorem w_1209 : Cond.instanceMethod yX9_together ∈ TW := TW_tb 1209 (by decide +kernel) (by decide +kernel)
theorem w_1210 : Cond.selects yX9_together.cls yX9_together yX9_together ∈ TW := TW_tb 1210 (by decide +kernel) (by decide +kernel)
theorem w_1216 : Cond.code yX9_write cX9_write 5 (some .int) ∈ TW := TW_tb 1216 (by decide +kernel) (by decide +kernel)
theorem w_1213 : Cond.methodLink "ViewCardsLaw" 131 yX9_write ∈ TW := TW_tb 1213 (by decide +kernel) (by decide +kernel)
theorem w_1214 : Cond.instanceMethod yX9_write ∈ TW := TW_tb 1214 (by decide +kernel) (by decide +kernel)
theorem w_1215 : Cond.selects yX9_write.cls yX9_write yX9_write ∈ TW := TW_tb 1215 (by decide +kernel) (by decide +kernel)
theorem w_1220 : Cond.code yX9_erase cX9_erase 2 (some .int) ∈ TW := TW_tb 1220 (by decide +kernel) (by decide +kernel)
theorem w_1217 : Cond.methodLink "ViewCardsLaw" 135 yX9_erase ∈ TW := TW_tb 1217 (by decide +kernel) (by decide +kernel)
theorem w_1218 : Cond.instanceMethod yX9_erase ∈ TW := TW_tb 1218 (by decide +kernel) (by decide +kernel)
theorem w_1219 : Cond.selects yX9_erase.cls yX9_erase yX9_erase ∈ TW := TW_tb 1219 (by decide +kernel) (by decide +kernel)
theorem w_1224 : Cond.code yX9_fault cX9_fault 1 (some .int) ∈ TW := TW_tb 1224 (by decide +kernel) (by decide +kernel)
theorem w_1221 : Cond.methodLink "ViewCardsLaw" 139 yX9_fault ∈ TW := TW_tb 1221 (by decide +kernel) (by decide +kernel)
theorem w_1222 : Cond.instanceMethod yX9_fault ∈ TW := TW_tb 1222 (by decide +kernel) (by decide +kernel)
theorem w_1223 : Cond.selects yX9_fault.cls yX9_fault yX9_fault ∈ TW := TW_tb 1223 (by decide +kernel) (by decide +kernel)
theorem w_1228 : Cond.code yX9_isRead cX9_isRead 2 (some .boolean) ∈ TW := TW_tb 1228 (by decide +kernel) (by decide +kernel)
theorem w_1225 : Cond.methodLink RX9 315 yX9_isRead ∈ TW := TW_tb 1225 (by decide +kernel) (by decide +kernel)
theorem w_1227 : Cond.instanceMethod yX9_isRead ∈ TW := TW_tb 1227 (by decide +kernel) (by decide +kernel)
theorem ws_50 : Cond.selects yX9_isRead.cls yX9_isRead yX9_isRead ∈ TW := TW_pr 50 (by decide +kernel) (by decide +kernel)
theorem w_1232 : Cond.code yX9_isLine cX9_isLine 2 (some .boolean) ∈ TW := TW_tb 1232 (by decide +kernel) (by decide +kernel)
theorem w_1229 : Cond.methodLink RX9 312 yX9_isLine ∈ TW := TW_tb 1229 (by decide +kernel) (by decide +kernel)
theorem w_1231 : Cond.instanceMethod yX9_isLine ∈ TW := TW_tb 1231 (by decide +kernel) (by decide +kernel)
theorem ws_51 : Cond.selects yX9_isLine.cls yX9_isLine yX9_isLine ∈ TW := TW_pr 51 (by decide +kernel) (by decide +kernel)
theorem w_1237 : Cond.code yX9_isWord cX9_isWord 3 (some .boolean) ∈ TW := TW_tb 1237 (by decide +kernel) (by decide +kernel)
theorem w_1234 : Cond.methodLink RX9 294 yX9_isWord ∈ TW := TW_tb 1234 (by decide +kernel) (by decide +kernel)
theorem w_1236 : Cond.instanceMethod yX9_isWord ∈ TW := TW_tb 1236 (by decide +kernel) (by decide +kernel)
theorem ws_52 : Cond.selects yX9_isWord.cls yX9_isWord yX9_isWord ∈ TW := TW_pr 52 (by decide +kernel) (by decide +kernel)
theorem w_1241 : Cond.code yX9_nextToken cX9_nextToken 1 none ∈ TW := TW_tb 1241 (by decide +kernel) (by decide +kernel)
theorem w_1238 : Cond.methodLink RX9 285 yX9_nextToken ∈ TW := TW_tb 1238 (by decide +kernel) (by decide +kernel)
theorem w_1240 : Cond.instanceMethod yX9_nextToken ∈ TW := TW_tb 1240 (by decide +kernel) (by decide +kernel)
theorem ws_53 : Cond.selects yX9_nextToken.cls yX9_nextToken yX9_nextToken ∈ TW := TW_pr 53 (by decide +kernel) (by decide +kernel)
theorem w_1250 : Cond.code yX9_fails cX9_fails 1 (some .boolean) ∈ TW := TW_tb 1250 (by decide +kernel) (by decide +kernel)
theorem w_1247 : Cond.methodLink RX9 288 yX9_fails ∈ TW := TW_tb 1247 (by decide +kernel) (by decide +kernel)
theorem w_1249 : Cond.instanceMethod yX9_fails ∈ TW := TW_tb 1249 (by decide +kernel) (by decide +kernel)
theorem ws_54 : Cond.selects yX9_fails.cls yX9_fails yX9_fails ∈ TW := TW_pr 54 (by decide +kernel) (by decide +kernel)
theorem w_1254 : Cond.code yX9_isNumber cX9_isNumber 4 (some .boolean) ∈ TW := TW_tb 1254 (by decide +kernel) (by decide +kernel)
theorem w_1251 : Cond.methodLink RX9 298 yX9_isNumber ∈ TW := TW_tb 1251 (by decide +kernel) (by decide +kernel)
theorem w_1253 : Cond.instanceMethod yX9_isNumber ∈ TW := TW_tb 1253 (by decide +kernel) (by decide +kernel)
theorem ws_55 : Cond.selects yX9_isNumber.cls yX9_isNumber yX9_isNumber ∈ TW := TW_pr 55 (by decide +kernel) (by decide +kernel)
theorem w_1262 : Cond.code yX9_catalogue cX9_catalogue 2 (some .int) ∈ TW := TW_tb 1262 (by decide +kernel) (by decide +kernel)
theorem w_1259 : Cond.methodLink "ViewCardsLaw" 143 yX9_catalogue ∈ TW := TW_tb 1259 (by decide +kernel) (by decide +kernel)
theorem w_1260 : Cond.instanceMethod yX9_catalogue ∈ TW := TW_tb 1260 (by decide +kernel) (by decide +kernel)
theorem w_1261 : Cond.selects yX9_catalogue.cls yX9_catalogue yX9_catalogue ∈ TW := TW_tb 1261 (by decide +kernel) (by decide +kernel)
theorem w_1266 : Cond.code yX9_breaks cX9_breaks 6 (some .int) ∈ TW := TW_tb 1266 (by decide +kernel) (by decide +kernel)
theorem w_1263 : Cond.methodLink "ViewCardsLaw" 147 yX9_breaks ∈ TW := TW_tb 1263 (by decide +kernel) (by decide +kernel)
theorem w_1264 : Cond.instanceMethod yX9_breaks ∈ TW := TW_tb 1264 (by decide +kernel) (by decide +kernel)
theorem w_1265 : Cond.selects yX9_breaks.cls yX9_breaks yX9_breaks ∈ TW := TW_tb 1265 (by decide +kernel) (by decide +kernel)
theorem w_1270 : Cond.code yX9_count cX9_count 4 (some .int) ∈ TW := TW_tb 1270 (by decide +kernel) (by decide +kernel)
theorem w_1267 : Cond.methodLink "ViewCardsLaw" 151 yX9_count ∈ TW := TW_tb 1267 (by decide +kernel) (by decide +kernel)
theorem w_1268 : Cond.instanceMethod yX9_count ∈ TW := TW_tb 1268 (by decide +kernel) (by decide +kernel)
theorem w_1269 : Cond.selects yX9_count.cls yX9_count yX9_count ∈ TW := TW_tb 1269 (by decide +kernel) (by decide +kernel)
theorem w_30 : Cond.code yX0_init cX0_init 1 none ∈ TW := TW_tb 30 (by decide +kernel) (by decide +kernel)
theorem w_29 : Cond.instanceMethod yX0_init ∈ TW := TW_tb 29 (by decide +kernel) (by decide +kernel)
theorem w_162 : Cond.code yX7_init cX7_init 1 none ∈ TW := TW_tb 162 (by decide +kernel) (by decide +kernel)
theorem w_161 : Cond.instanceMethod yX7_init ∈ TW := TW_tb 161 (by decide +kernel) (by decide +kernel)
theorem w_258 : Cond.code yX6_init cX6_init 1 none ∈ TW := TW_tb 258 (by decide +kernel) (by decide +kernel)
theorem w_257 : Cond.instanceMethod yX6_init ∈ TW := TW_tb 257 (by decide +kernel) (by decide +kernel)
theorem w_282 : Cond.code yX4_init cX4_init 1 none ∈ TW := TW_tb 282 (by decide +kernel) (by decide +kernel)
theorem w_281 : Cond.instanceMethod yX4_init ∈ TW := TW_tb 281 (by decide +kernel) (by decide +kernel)
theorem w_726 : Cond.code yX8_isDigit cX8_isDigit 1 (some .boolean) ∈ TW := TW_tb 726 (by decide +kernel) (by decide +kernel)
theorem w_725 : Cond.static yX8_isDigit ∈ TW := TW_tb 725 (by decide +kernel) (by decide +kernel)
section LINKS
variable {G : vG} {l : Launch} {y : MethodName} {cc : ByteArray} {nL : Nat} {ret : Option FieldType} {d mc ms : Nat} {Q : Option Value → VW → Prop} {pc : Nat} {lv : List (Option Value)} {st : List Value} {w : VW} {k n : Nat}
theorem g_X0_9 {a : Nat} {fs : List Value} {v : Value} (hy : y.cls = RX0) (hdg : decode cc pc = .ok (.getfield 9, 3)) (he : w[a]? = some (.inr (0, fs))) (hv : fs[0]? = some v) (kk : R G l y cc nL ret d mc ms Q (pc + 3) lv (v :: st) w k n) : R G l y cc nL ret d mc ms Q pc lv (.ref a :: st) w k n := R_get (C := RX0) (ref := RX0) (T := TX0) (N := 13) (ci := 0) (j := 0) rfl inX0 (by decide) (by rw [hy]; exact w_32) rfl hdg he hv kk
theorem p_X0_9 {a : Nat} {fs : List Value} {v : Value} {w2 : VW} (hy : y.cls = RX0) (hini : y.name = "<init>") (hdg : decode cc pc = .ok (.putfield 9, 3)) (he : w[a]? = some (.inr (0, fs))) (hl0 : 0 < fs.length) (hn : narrow (tyX0 0) v = v) (hf : fits (tyX0 0) v = true) (hw : w.set a (.inr (0, fs.set 0 v)) = w2) (kk : R G l y cc nL ret d mc ms Q (pc + 3) lv st w2 k n) : R G l y cc nL ret d mc ms Q pc lv (v :: .ref a :: st) w k n := R_putF (C := RX0) (ref := RX0) (T := TX0) (ty0 := tyX0) (N := 13) (ci := 0) (j := 0) rfl inX0 tyX0_ok nmX0 (by decide) (by rw [hy]; exact w_32) rfl rfl (by rw [hy]; rfl) hini hn hf hdg he hl0 (by rw [hw]; exact kk)
theorem g_X3_85 {a : Nat} {fs : List Value} {v : Value} (hy : y.cls = RX3) (hdg : decode cc pc = .ok (.getfield 85, 3)) (he : w[a]? = some (.inr (0, fs))) (hv : fs[0]? = some v) (kk : R G l y cc nL ret d mc ms Q (pc + 3) lv (v :: st) w k n) : R G l y cc nL ret d mc ms Q pc lv (.ref a :: st) w k n := R_get (C := RX0) (ref := RX0) (T := TX0) (N := 13) (ci := 0) (j := 0) rfl inX0 (by decide) (by rw [hy]; exact w_33) rfl hdg he hv kk
theorem g_X0_15 {a : Nat} {fs : List Value} {v : Value} (hy : y.cls = RX0) (hdg : decode cc pc = .ok (.getfield 15, 3)) (he : w[a]? = some (.inr (0, fs))) (hv : fs[1]? = some v) (kk : R G l y cc nL ret d mc ms Q (pc + 3) lv (v :: st) w k n) : R G l y cc nL ret d mc ms Q pc lv (.ref a :: st) w k n := R_get (C := RX0) (ref := RX0) (T := TX0) (N := 13) (ci := 0) (j := 1) rfl inX0 (by decide) (by rw [hy]; exact w_34) rfl hdg he hv kk
theorem p_X0_15 {a : Nat} {fs : List Value} {v : Value} {w2 : VW} (hy : y.cls = RX0) (hini : y.name = "<init>") (hdg : decode cc pc = .ok (.putfield 15, 3)) (he : w[a]? = some (.inr (0, fs))) (hl0 : 1 < fs.length) (hn : narrow (tyX0 1) v = v) (hf : fits (tyX0 1) v = true) (hw : w.set a (.inr (0, fs.set 1 v)) = w2) (kk : R G l y cc nL ret d mc ms Q (pc + 3) lv st w2 k n) : R G l y cc nL ret d mc ms Q pc lv (v :: .ref a :: st) w k n := R_putF (C := RX0) (ref := RX0) (T := TX0) (ty0 := tyX0) (N := 13) (ci := 0) (j := 1) rfl inX0 tyX0_ok nmX0 (by decide) (by rw [hy]; exact w_34) rfl rfl (by rw [hy]; rfl) hini hn hf hdg he hl0 (by rw [hw]; exact kk)
theorem g_X5_29 {a : Nat} {fs : List Value} {v : Value} (hy : y.cls = RX5) (hdg : decode cc pc = .ok (.getfield 29, 3)) (he : w[a]? = some (.inr (0, fs))) (hv : fs[1]? = some v) (kk : R G l y cc nL ret d mc ms Q (pc + 3) lv (v :: st) w k n) : R G l y cc nL ret d mc ms Q pc lv (.ref a :: st) w k n := R_get (C := RX0) (ref := RX0) (T := TX0) (N := 13) (ci := 0) (j := 1) rfl inX0 (by decide) (by rw [hy]; exact w_35) rfl hdg he hv kk
theorem g_X1_107 {a : Nat} {fs : List Value} {v : Value} (hy : y.cls = RX1) (hdg : decode cc pc = .ok (.getfield 107, 3)) (he : w[a]? = some (.inr (0, fs))) (hv : fs[1]? = some v) (kk : R G l y cc nL ret d mc ms Q (pc + 3) lv (v :: st) w k n) : R G l y cc nL ret d mc ms Q pc lv (.ref a :: st) w k n := R_get (C := RX0) (ref := RX0) (T := TX0) (N := 13) (ci := 0) (j := 1) rfl inX0 (by decide) (by rw [hy]; exact w_36) rfl hdg he hv kk
theorem g_X3_88 {a : Nat} {fs : List Value} {v : Value} (hy : y.cls = RX3) (hdg : decode cc pc = .ok (.getfield 88, 3)) (he : w[a]? = some (.inr (0, fs))) (hv : fs[1]? = some v) (kk : R G l y cc nL ret d mc ms Q (pc + 3) lv (v :: st) w k n) : R G l y cc nL ret d mc ms Q pc lv (.ref a :: st) w k n := R_get (C := RX0) (ref := RX0) (T := TX0) (N := 13) (ci := 0) (j := 1) rfl inX0 (by decide) (by rw [hy]; exact w_37) rfl hdg he hv kk
theorem g_X8_172 {a : Nat} {fs : List Value} {v : Value} (hy : y.cls = RX8) (hdg : decode cc pc = .ok (.getfield 172, 3)) (he : w[a]? = some (.inr (0, fs))) (hv : fs[1]? = some v) (kk : R G l y cc nL ret d mc ms Q (pc + 3) lv (v :: st) w k n) : R G l y cc nL ret d mc ms Q pc lv (.ref a :: st) w k n := R_get (C := RX0) (ref := RX0) (T := TX0) (N := 13) (ci := 0) (j := 1) rfl inX0 (by decide) (by rw [hy]; exact w_38) rfl hdg he hv kk
theorem g_X0_18 {a : Nat} {fs : List Value} {v : Value} (hy : y.cls = RX0) (hdg : decode cc pc = .ok (.getfield 18, 3)) (he : w[a]? = some (.inr (0, fs))) (hv : fs[2]? = some v) (kk : R G l y cc nL ret d mc ms Q (pc + 3) lv (v :: st) w k n) : R G l y cc nL ret d mc ms Q pc lv (.ref a :: st) w k n := R_get (C := RX0) (ref := RX0) (T := TX0) (N := 13) (ci := 0) (j := 2) rfl inX0 (by decide) (by rw [hy]; exact w_39) rfl hdg he hv kk
theorem p_X0_18 {a : Nat} {fs : List Value} {v : Value} {w2 : VW} (hy : y.cls = RX0) (hini : y.name = "<init>") (hdg : decode cc pc = .ok (.putfield 18, 3)) (he : w[a]? = some (.inr (0, fs))) (hl0 : 2 < fs.length) (hn : narrow (tyX0 2) v = v) (hf : fits (tyX0 2) v = true) (hw : w.set a (.inr (0, fs.set 2 v)) = w2) (kk : R G l y cc nL ret d mc ms Q (pc + 3) lv st w2 k n) : R G l y cc nL ret d mc ms Q pc lv (v :: .ref a :: st) w k n := R_putF (C := RX0) (ref := RX0) (T := TX0) (ty0 := tyX0) (N := 13) (ci := 0) (j := 2) rfl inX0 tyX0_ok nmX0 (by decide) (by rw [hy]; exact w_39) rfl rfl (by rw [hy]; rfl) hini hn hf hdg he hl0 (by rw [hw]; exact kk)
theorem g_X5_33 {a : Nat} {fs : List Value} {v : Value} (hy : y.cls = RX5) (hdg : decode cc pc = .ok (.getfield 33, 3)) (he : w[a]? = some (.inr (0, fs))) (hv : fs[2]? = some v) (kk : R G l y cc nL ret d mc ms Q (pc + 3) lv (v :: st) w k n) : R G l y cc nL ret d mc ms Q pc lv (.ref a :: st) w k n := R_get (C := RX0) (ref := RX0) (T := TX0) (N := 13) (ci := 0) (j := 2) rfl inX0 (by decide) (by rw [hy]; exact w_40) rfl hdg he hv kk
theorem g_X1_110 {a : Nat} {fs : List Value} {v : Value} (hy : y.cls = RX1) (hdg : decode cc pc = .ok (.getfield 110, 3)) (he : w[a]? = some (.inr (0, fs))) (hv : fs[2]? = some v) (kk : R G l y cc nL ret d mc ms Q (pc + 3) lv (v :: st) w k n) : R G l y cc nL ret d mc ms Q pc lv (.ref a :: st) w k n := R_get (C := RX0) (ref := RX0) (T := TX0) (N := 13) (ci := 0) (j := 2) rfl inX0 (by decide) (by rw [hy]; exact w_41) rfl hdg he hv kk
theorem g_X3_82 {a : Nat} {fs : List Value} {v : Value} (hy : y.cls = RX3) (hdg : decode cc pc = .ok (.getfield 82, 3)) (he : w[a]? = some (.inr (0, fs))) (hv : fs[2]? = some v) (kk : R G l y cc nL ret d mc ms Q (pc + 3) lv (v :: st) w k n) : R G l y cc nL ret d mc ms Q pc lv (.ref a :: st) w k n := R_get (C := RX0) (ref := RX0) (T := TX0) (N := 13) (ci := 0) (j := 2) rfl inX0 (by decide) (by rw [hy]; exact w_42) rfl hdg he hv kk
theorem g_X8_178 {a : Nat} {fs : List Value} {v : Value} (hy : y.cls = RX8) (hdg : decode cc pc = .ok (.getfield 178, 3)) (he : w[a]? = some (.inr (0, fs))) (hv : fs[2]? = some v) (kk : R G l y cc nL ret d mc ms Q (pc + 3) lv (v :: st) w k n) : R G l y cc nL ret d mc ms Q pc lv (.ref a :: st) w k n := R_get (C := RX0) (ref := RX0) (T := TX0) (N := 13) (ci := 0) (j := 2) rfl inX0 (by decide) (by rw [hy]; exact w_43) rfl hdg he hv kk
theorem g_X0_21 {a : Nat} {fs : List Value} {v : Value} (hy : y.cls = RX0) (hdg : decode cc pc = .ok (.getfield 21, 3)) (he : w[a]? = some (.inr (0, fs))) (hv : fs[3]? = some v) (kk : R G l y cc nL ret d mc ms Q (pc + 3) lv (v :: st) w k n) : R G l y cc nL ret d mc ms Q pc lv (.ref a :: st) w k n := R_get (C := RX0) (ref := RX0) (T := TX0) (N := 13) (ci := 0) (j := 3) rfl inX0 (by decide) (by rw [hy]; exact w_44) rfl hdg he hv kk
theorem p_X0_21 {a : Nat} {fs : List Value} {v : Value} {w2 : VW} (hy : y.cls = RX0) (hini : y.name = "<init>") (hdg : decode cc pc = .ok (.putfield 21, 3)) (he : w[a]? = some (.inr (0, fs))) (hl0 : 3 < fs.length) (hn : narrow (tyX0 3) v = v) (hf : fits (tyX0 3) v = true) (hw : w.set a (.inr (0, fs.set 3 v)) = w2) (kk : R G l y cc nL ret d mc ms Q (pc + 3) lv st w2 k n) : R G l y cc nL ret d mc ms Q pc lv (v :: .ref a :: st) w k n := R_putF (C := RX0) (ref := RX0) (T := TX0) (ty0 := tyX0) (N := 13) (ci := 0) (j := 3) rfl inX0 tyX0_ok nmX0 (by decide) (by rw [hy]; exact w_44) rfl rfl (by rw [hy]; rfl) hini hn hf hdg he hl0 (by rw [hw]; exact kk)
theorem g_X1_85 {a : Nat} {fs : List Value} {v : Value} (hy : y.cls = RX1) (hdg : decode cc pc = .ok (.getfield 85, 3)) (he : w[a]? = some (.inr (0, fs))) (hv : fs[3]? = some v) (kk : R G l y cc nL ret d mc ms Q (pc + 3) lv (v :: st) w k n) : R G l y cc nL ret d mc ms Q pc lv (.ref a :: st) w k n := R_get (C := RX0) (ref := RX0) (T := TX0) (N := 13) (ci := 0) (j := 3) rfl inX0 (by decide) (by rw [hy]; exact w_45) rfl hdg he hv kk
theorem g_X3_91 {a : Nat} {fs : List Value} {v : Value} (hy : y.cls = RX3) (hdg : decode cc pc = .ok (.getfield 91, 3)) (he : w[a]? = some (.inr (0, fs))) (hv : fs[3]? = some v) (kk : R G l y cc nL ret d mc ms Q (pc + 3) lv (v :: st) w k n) : R G l y cc nL ret d mc ms Q pc lv (.ref a :: st) w k n := R_get (C := RX0) (ref := RX0) (T := TX0) (N := 13) (ci := 0) (j := 3) rfl inX0 (by decide) (by rw [hy]; exact w_46) rfl hdg he hv kk
theorem g_X8_316 {a : Nat} {fs : List Value} {v : Value} (hy : y.cls = RX8) (hdg : decode cc pc = .ok (.getfield 316, 3)) (he : w[a]? = some (.inr (0, fs))) (hv : fs[3]? = some v) (kk : R G l y cc nL ret d mc ms Q (pc + 3) lv (v :: st) w k n) : R G l y cc nL ret d mc ms Q pc lv (.ref a :: st) w k n := R_get (C := RX0) (ref := RX0) (T := TX0) (N := 13) (ci := 0) (j := 3) rfl inX0 (by decide) (by rw [hy]; exact w_47) rfl hdg he hv kk
theorem g_X0_24 {a : Nat} {fs : List Value} {v : Value} (hy : y.cls = RX0) (hdg : decode cc pc = .ok (.getfield 24, 3)) (he : w[a]? = some (.inr (0, fs))) (hv : fs[4]? = some v) (kk : R G l y cc nL ret d mc ms Q (pc + 3) lv (v :: st) w k n) : R G l y cc nL ret d mc ms Q pc lv (.ref a :: st) w k n := R_get (C := RX0) (ref := RX0) (T := TX0) (N := 13) (ci := 0) (j := 4) rfl inX0 (by decide) (by rw [hy]; exact w_48) rfl hdg he hv kk
theorem p_X0_24 {a : Nat} {fs : List Value} {v : Value} {w2 : VW} (hy : y.cls = RX0) (hini : y.name = "<init>") (hdg : decode cc pc = .ok (.putfield 24, 3)) (he : w[a]? = some (.inr (0, fs))) (hl0 : 4 < fs.length) (hn : narrow (tyX0 4) v = v) (hf : fits (tyX0 4) v = true) (hw : w.set a (.inr (0, fs.set 4 v)) = w2) (kk : R G l y cc nL ret d mc ms Q (pc + 3) lv st w2 k n) : R G l y cc nL ret d mc ms Q pc lv (v :: .ref a :: st) w k n := R_putF (C := RX0) (ref := RX0) (T := TX0) (ty0 := tyX0) (N := 13) (ci := 0) (j := 4) rfl inX0 tyX0_ok nmX0 (by decide) (by rw [hy]; exact w_48) rfl rfl (by rw [hy]; rfl) hini hn hf hdg he hl0 (by rw [hw]; exact kk)
theorem g_X3_53 {a : Nat} {fs : List Value} {v : Value} (hy : y.cls = RX3) (hdg : decode cc pc = .ok (.getfield 53, 3)) (he : w[a]? = some (.inr (0, fs))) (hv : fs[4]? = some v) (kk : R G l y cc nL ret d mc ms Q (pc + 3) lv (v :: st) w k n) : R G l y cc nL ret d mc ms Q pc lv (.ref a :: st) w k n := R_get (C := RX0) (ref := RX0) (T := TX0) (N := 13) (ci := 0) (j := 4) rfl inX0 (by decide) (by rw [hy]; exact w_49) rfl hdg he hv kk
theorem g_X0_28 {a : Nat} {fs : List Value} {v : Value} (hy : y.cls = RX0) (hdg : decode cc pc = .ok (.getfield 28, 3)) (he : w[a]? = some (.inr (0, fs))) (hv : fs[5]? = some v) (kk : R G l y cc nL ret d mc ms Q (pc + 3) lv (v :: st) w k n) : R G l y cc nL ret d mc ms Q pc lv (.ref a :: st) w k n := R_get (C := RX0) (ref := RX0) (T := TX0) (N := 13) (ci := 0) (j := 5) rfl inX0 (by decide) (by rw [hy]; exact w_50) rfl hdg he hv kk
theorem p_X0_28 {a : Nat} {fs : List Value} {v : Value} {w2 : VW} (hy : y.cls = RX0) (hini : y.name = "<init>") (hdg : decode cc pc = .ok (.putfield 28, 3)) (he : w[a]? = some (.inr (0, fs))) (hl0 : 5 < fs.length) (hn : narrow (tyX0 5) v = v) (hf : fits (tyX0 5) v = true) (hw : w.set a (.inr (0, fs.set 5 v)) = w2) (kk : R G l y cc nL ret d mc ms Q (pc + 3) lv st w2 k n) : R G l y cc nL ret d mc ms Q pc lv (v :: .ref a :: st) w k n := R_putF (C := RX0) (ref := RX0) (T := TX0) (ty0 := tyX0) (N := 13) (ci := 0) (j := 5) rfl inX0 tyX0_ok nmX0 (by decide) (by rw [hy]; exact w_50) rfl rfl (by rw [hy]; rfl) hini hn hf hdg he hl0 (by rw [hw]; exact kk)
theorem g_X3_40 {a : Nat} {fs : List Value} {v : Value} (hy : y.cls = RX3) (hdg : decode cc pc = .ok (.getfield 40, 3)) (he : w[a]? = some (.inr (0, fs))) (hv : fs[5]? = some v) (kk : R G l y cc nL ret d mc ms Q (pc + 3) lv (v :: st) w k n) : R G l y cc nL ret d mc ms Q pc lv (.ref a :: st) w k n := R_get (C := RX0) (ref := RX0) (T := TX0) (N := 13) (ci := 0) (j := 5) rfl inX0 (by decide) (by rw [hy]; exact w_51) rfl hdg he hv kk
theorem g_X0_31 {a : Nat} {fs : List Value} {v : Value} (hy : y.cls = RX0) (hdg : decode cc pc = .ok (.getfield 31, 3)) (he : w[a]? = some (.inr (0, fs))) (hv : fs[6]? = some v) (kk : R G l y cc nL ret d mc ms Q (pc + 3) lv (v :: st) w k n) : R G l y cc nL ret d mc ms Q pc lv (.ref a :: st) w k n := R_get (C := RX0) (ref := RX0) (T := TX0) (N := 13) (ci := 0) (j := 6) rfl inX0 (by decide) (by rw [hy]; exact w_52) rfl hdg he hv kk
theorem p_X0_31 {a : Nat} {fs : List Value} {v : Value} {w2 : VW} (hy : y.cls = RX0) (hini : y.name = "<init>") (hdg : decode cc pc = .ok (.putfield 31, 3)) (he : w[a]? = some (.inr (0, fs))) (hl0 : 6 < fs.length) (hn : narrow (tyX0 6) v = v) (hf : fits (tyX0 6) v = true) (hw : w.set a (.inr (0, fs.set 6 v)) = w2) (kk : R G l y cc nL ret d mc ms Q (pc + 3) lv st w2 k n) : R G l y cc nL ret d mc ms Q pc lv (v :: .ref a :: st) w k n := R_putF (C := RX0) (ref := RX0) (T := TX0) (ty0 := tyX0) (N := 13) (ci := 0) (j := 6) rfl inX0 tyX0_ok nmX0 (by decide) (by rw [hy]; exact w_52) rfl rfl (by rw [hy]; rfl) hini hn hf hdg he hl0 (by rw [hw]; exact kk)
theorem g_X1_90 {a : Nat} {fs : List Value} {v : Value} (hy : y.cls = RX1) (hdg : decode cc pc = .ok (.getfield 90, 3)) (he : w[a]? = some (.inr (0, fs))) (hv : fs[6]? = some v) (kk : R G l y cc nL ret d mc ms Q (pc + 3) lv (v :: st) w k n) : R G l y cc nL ret d mc ms Q pc lv (.ref a :: st) w k n := R_get (C := RX0) (ref := RX0) (T := TX0) (N := 13) (ci := 0) (j := 6) rfl inX0 (by decide) (by rw [hy]; exact w_53) rfl hdg he hv kk
theorem g_X0_34 {a : Nat} {fs : List Value} {v : Value} (hy : y.cls = RX0) (hdg : decode cc pc = .ok (.getfield 34, 3)) (he : w[a]? = some (.inr (0, fs))) (hv : fs[7]? = some v) (kk : R G l y cc nL ret d mc ms Q (pc + 3) lv (v :: st) w k n) : R G l y cc nL ret d mc ms Q pc lv (.ref a :: st) w k n := R_get (C := RX0) (ref := RX0) (T := TX0) (N := 13) (ci := 0) (j := 7) rfl inX0 (by decide) (by rw [hy]; exact w_54) rfl hdg he hv kk
theorem p_X0_34 {a : Nat} {fs : List Value} {v : Value} {w2 : VW} (hy : y.cls = RX0) (hini : y.name = "<init>") (hdg : decode cc pc = .ok (.putfield 34, 3)) (he : w[a]? = some (.inr (0, fs))) (hl0 : 7 < fs.length) (hn : narrow (tyX0 7) v = v) (hf : fits (tyX0 7) v = true) (hw : w.set a (.inr (0, fs.set 7 v)) = w2) (kk : R G l y cc nL ret d mc ms Q (pc + 3) lv st w2 k n) : R G l y cc nL ret d mc ms Q pc lv (v :: .ref a :: st) w k n := R_putF (C := RX0) (ref := RX0) (T := TX0) (ty0 := tyX0) (N := 13) (ci := 0) (j := 7) rfl inX0 tyX0_ok nmX0 (by decide) (by rw [hy]; exact w_54) rfl rfl (by rw [hy]; rfl) hini hn hf hdg he hl0 (by rw [hw]; exact kk)
theorem g_X0_37 {a : Nat} {fs : List Value} {v : Value} (hy : y.cls = RX0) (hdg : decode cc pc = .ok (.getfield 37, 3)) (he : w[a]? = some (.inr (0, fs))) (hv : fs[8]? = some v) (kk : R G l y cc nL ret d mc ms Q (pc + 3) lv (v :: st) w k n) : R G l y cc nL ret d mc ms Q pc lv (.ref a :: st) w k n := R_get (C := RX0) (ref := RX0) (T := TX0) (N := 13) (ci := 0) (j := 8) rfl inX0 (by decide) (by rw [hy]; exact w_55) rfl hdg he hv kk
theorem p_X0_37 {a : Nat} {fs : List Value} {v : Value} {w2 : VW} (hy : y.cls = RX0) (hini : y.name = "<init>") (hdg : decode cc pc = .ok (.putfield 37, 3)) (he : w[a]? = some (.inr (0, fs))) (hl0 : 8 < fs.length) (hn : narrow (tyX0 8) v = v) (hf : fits (tyX0 8) v = true) (hw : w.set a (.inr (0, fs.set 8 v)) = w2) (kk : R G l y cc nL ret d mc ms Q (pc + 3) lv st w2 k n) : R G l y cc nL ret d mc ms Q pc lv (v :: .ref a :: st) w k n := R_putF (C := RX0) (ref := RX0) (T := TX0) (ty0 := tyX0) (N := 13) (ci := 0) (j := 8) rfl inX0 tyX0_ok nmX0 (by decide) (by rw [hy]; exact w_55) rfl rfl (by rw [hy]; rfl) hini hn hf hdg he hl0 (by rw [hw]; exact kk)
theorem g_X8_101 {a : Nat} {fs : List Value} {v : Value} (hy : y.cls = RX8) (hdg : decode cc pc = .ok (.getfield 101, 3)) (he : w[a]? = some (.inr (0, fs))) (hv : fs[8]? = some v) (kk : R G l y cc nL ret d mc ms Q (pc + 3) lv (v :: st) w k n) : R G l y cc nL ret d mc ms Q pc lv (.ref a :: st) w k n := R_get (C := RX0) (ref := RX0) (T := TX0) (N := 13) (ci := 0) (j := 8) rfl inX0 (by decide) (by rw [hy]; exact w_56) rfl hdg he hv kk
theorem g_X3_75 {a : Nat} {fs : List Value} {v : Value} (hy : y.cls = RX3) (hdg : decode cc pc = .ok (.getfield 75, 3)) (he : w[a]? = some (.inr (0, fs))) (hv : fs[8]? = some v) (kk : R G l y cc nL ret d mc ms Q (pc + 3) lv (v :: st) w k n) : R G l y cc nL ret d mc ms Q pc lv (.ref a :: st) w k n := R_get (C := RX0) (ref := RX0) (T := TX0) (N := 13) (ci := 0) (j := 8) rfl inX0 (by decide) (by rw [hy]; exact w_57) rfl hdg he hv kk
theorem g_X0_40 {a : Nat} {fs : List Value} {v : Value} (hy : y.cls = RX0) (hdg : decode cc pc = .ok (.getfield 40, 3)) (he : w[a]? = some (.inr (0, fs))) (hv : fs[9]? = some v) (kk : R G l y cc nL ret d mc ms Q (pc + 3) lv (v :: st) w k n) : R G l y cc nL ret d mc ms Q pc lv (.ref a :: st) w k n := R_get (C := RX0) (ref := RX0) (T := TX0) (N := 13) (ci := 0) (j := 9) rfl inX0 (by decide) (by rw [hy]; exact w_58) rfl hdg he hv kk
theorem p_X0_40 {a : Nat} {fs : List Value} {v : Value} {w2 : VW} (hy : y.cls = RX0) (hini : y.name = "<init>") (hdg : decode cc pc = .ok (.putfield 40, 3)) (he : w[a]? = some (.inr (0, fs))) (hl0 : 9 < fs.length) (hn : narrow (tyX0 9) v = v) (hf : fits (tyX0 9) v = true) (hw : w.set a (.inr (0, fs.set 9 v)) = w2) (kk : R G l y cc nL ret d mc ms Q (pc + 3) lv st w2 k n) : R G l y cc nL ret d mc ms Q pc lv (v :: .ref a :: st) w k n := R_putF (C := RX0) (ref := RX0) (T := TX0) (ty0 := tyX0) (N := 13) (ci := 0) (j := 9) rfl inX0 tyX0_ok nmX0 (by decide) (by rw [hy]; exact w_58) rfl rfl (by rw [hy]; rfl) hini hn hf hdg he hl0 (by rw [hw]; exact kk)
theorem g_X8_105 {a : Nat} {fs : List Value} {v : Value} (hy : y.cls = RX8) (hdg : decode cc pc = .ok (.getfield 105, 3)) (he : w[a]? = some (.inr (0, fs))) (hv : fs[9]? = some v) (kk : R G l y cc nL ret d mc ms Q (pc + 3) lv (v :: st) w k n) : R G l y cc nL ret d mc ms Q pc lv (.ref a :: st) w k n := R_get (C := RX0) (ref := RX0) (T := TX0) (N := 13) (ci := 0) (j := 9) rfl inX0 (by decide) (by rw [hy]; exact w_59) rfl hdg he hv kk
theorem g_X3_72 {a : Nat} {fs : List Value} {v : Value} (hy : y.cls = RX3) (hdg : decode cc pc = .ok (.getfield 72, 3)) (he : w[a]? = some (.inr (0, fs))) (hv : fs[9]? = some v) (kk : R G l y cc nL ret d mc ms Q (pc + 3) lv (v :: st) w k n) : R G l y cc nL ret d mc ms Q pc lv (.ref a :: st) w k n := R_get (C := RX0) (ref := RX0) (T := TX0) (N := 13) (ci := 0) (j := 9) rfl inX0 (by decide) (by rw [hy]; exact w_60) rfl hdg he hv kk
theorem g_X0_47 {a : Nat} {fs : List Value} {v : Value} (hy : y.cls = RX0) (hdg : decode cc pc = .ok (.getfield 47, 3)) (he : w[a]? = some (.inr (0, fs))) (hv : fs[10]? = some v) (kk : R G l y cc nL ret d mc ms Q (pc + 3) lv (v :: st) w k n) : R G l y cc nL ret d mc ms Q pc lv (.ref a :: st) w k n := R_get (C := RX0) (ref := RX0) (T := TX0) (N := 13) (ci := 0) (j := 10) rfl inX0 (by decide) (by rw [hy]; exact w_61) rfl hdg he hv kk
theorem p_X0_47 {a : Nat} {fs : List Value} {v : Value} {w2 : VW} (hy : y.cls = RX0) (hdg : decode cc pc = .ok (.putfield 47, 3)) (he : w[a]? = some (.inr (0, fs))) (hl0 : 10 < fs.length) (hn : narrow (tyX0 10) v = v) (hf : fits (tyX0 10) v = true) (hw : w.set a (.inr (0, fs.set 10 v)) = w2) (kk : R G l y cc nL ret d mc ms Q (pc + 3) lv st w2 k n) : R G l y cc nL ret d mc ms Q pc lv (v :: .ref a :: st) w k n := R_put (C := RX0) (ref := RX0) (T := TX0) (ty0 := tyX0) (N := 13) (ci := 0) (j := 10) rfl inX0 tyX0_ok nmX0 (by decide) (by rw [hy]; exact w_61) rfl rfl hn hf hdg he hl0 (by rw [hw]; exact kk)
theorem g_X3_31 {a : Nat} {fs : List Value} {v : Value} (hy : y.cls = RX3) (hdg : decode cc pc = .ok (.getfield 31, 3)) (he : w[a]? = some (.inr (0, fs))) (hv : fs[10]? = some v) (kk : R G l y cc nL ret d mc ms Q (pc + 3) lv (v :: st) w k n) : R G l y cc nL ret d mc ms Q pc lv (.ref a :: st) w k n := R_get (C := RX0) (ref := RX0) (T := TX0) (N := 13) (ci := 0) (j := 10) rfl inX0 (by decide) (by rw [hy]; exact w_62) rfl hdg he hv kk
theorem p_X3_31 {a : Nat} {fs : List Value} {v : Value} {w2 : VW} (hy : y.cls = RX3) (hdg : decode cc pc = .ok (.putfield 31, 3)) (he : w[a]? = some (.inr (0, fs))) (hl0 : 10 < fs.length) (hn : narrow (tyX0 10) v = v) (hf : fits (tyX0 10) v = true) (hw : w.set a (.inr (0, fs.set 10 v)) = w2) (kk : R G l y cc nL ret d mc ms Q (pc + 3) lv st w2 k n) : R G l y cc nL ret d mc ms Q pc lv (v :: .ref a :: st) w k n := R_put (C := RX0) (ref := RX0) (T := TX0) (ty0 := tyX0) (N := 13) (ci := 0) (j := 10) rfl inX0 tyX0_ok nmX0 (by decide) (by rw [hy]; exact w_62) rfl rfl hn hf hdg he hl0 (by rw [hw]; exact kk)
theorem g_X5_19 {a : Nat} {fs : List Value} {v : Value} (hy : y.cls = RX5) (hdg : decode cc pc = .ok (.getfield 19, 3)) (he : w[a]? = some (.inr (0, fs))) (hv : fs[10]? = some v) (kk : R G l y cc nL ret d mc ms Q (pc + 3) lv (v :: st) w k n) : R G l y cc nL ret d mc ms Q pc lv (.ref a :: st) w k n := R_get (C := RX0) (ref := RX0) (T := TX0) (N := 13) (ci := 0) (j := 10) rfl inX0 (by decide) (by rw [hy]; exact w_63) rfl hdg he hv kk
theorem p_X5_19 {a : Nat} {fs : List Value} {v : Value} {w2 : VW} (hy : y.cls = RX5) (hdg : decode cc pc = .ok (.putfield 19, 3)) (he : w[a]? = some (.inr (0, fs))) (hl0 : 10 < fs.length) (hn : narrow (tyX0 10) v = v) (hf : fits (tyX0 10) v = true) (hw : w.set a (.inr (0, fs.set 10 v)) = w2) (kk : R G l y cc nL ret d mc ms Q (pc + 3) lv st w2 k n) : R G l y cc nL ret d mc ms Q pc lv (v :: .ref a :: st) w k n := R_put (C := RX0) (ref := RX0) (T := TX0) (ty0 := tyX0) (N := 13) (ci := 0) (j := 10) rfl inX0 tyX0_ok nmX0 (by decide) (by rw [hy]; exact w_63) rfl rfl hn hf hdg he hl0 (by rw [hw]; exact kk)
theorem g_X8_76 {a : Nat} {fs : List Value} {v : Value} (hy : y.cls = RX8) (hdg : decode cc pc = .ok (.getfield 76, 3)) (he : w[a]? = some (.inr (0, fs))) (hv : fs[10]? = some v) (kk : R G l y cc nL ret d mc ms Q (pc + 3) lv (v :: st) w k n) : R G l y cc nL ret d mc ms Q pc lv (.ref a :: st) w k n := R_get (C := RX0) (ref := RX0) (T := TX0) (N := 13) (ci := 0) (j := 10) rfl inX0 (by decide) (by rw [hy]; exact w_64) rfl hdg he hv kk
theorem p_X8_76 {a : Nat} {fs : List Value} {v : Value} {w2 : VW} (hy : y.cls = RX8) (hdg : decode cc pc = .ok (.putfield 76, 3)) (he : w[a]? = some (.inr (0, fs))) (hl0 : 10 < fs.length) (hn : narrow (tyX0 10) v = v) (hf : fits (tyX0 10) v = true) (hw : w.set a (.inr (0, fs.set 10 v)) = w2) (kk : R G l y cc nL ret d mc ms Q (pc + 3) lv st w2 k n) : R G l y cc nL ret d mc ms Q pc lv (v :: .ref a :: st) w k n := R_put (C := RX0) (ref := RX0) (T := TX0) (ty0 := tyX0) (N := 13) (ci := 0) (j := 10) rfl inX0 tyX0_ok nmX0 (by decide) (by rw [hy]; exact w_64) rfl rfl hn hf hdg he hl0 (by rw [hw]; exact kk)
theorem g_X0_50 {a : Nat} {fs : List Value} {v : Value} (hy : y.cls = RX0) (hdg : decode cc pc = .ok (.getfield 50, 3)) (he : w[a]? = some (.inr (0, fs))) (hv : fs[11]? = some v) (kk : R G l y cc nL ret d mc ms Q (pc + 3) lv (v :: st) w k n) : R G l y cc nL ret d mc ms Q pc lv (.ref a :: st) w k n := R_get (C := RX0) (ref := RX0) (T := TX0) (N := 13) (ci := 0) (j := 11) rfl inX0 (by decide) (by rw [hy]; exact w_65) rfl hdg he hv kk
theorem p_X0_50 {a : Nat} {fs : List Value} {v : Value} {w2 : VW} (hy : y.cls = RX0) (hdg : decode cc pc = .ok (.putfield 50, 3)) (he : w[a]? = some (.inr (0, fs))) (hl0 : 11 < fs.length) (hn : narrow (tyX0 11) v = v) (hf : fits (tyX0 11) v = true) (hw : w.set a (.inr (0, fs.set 11 v)) = w2) (kk : R G l y cc nL ret d mc ms Q (pc + 3) lv st w2 k n) : R G l y cc nL ret d mc ms Q pc lv (v :: .ref a :: st) w k n := R_put (C := RX0) (ref := RX0) (T := TX0) (ty0 := tyX0) (N := 13) (ci := 0) (j := 11) rfl inX0 tyX0_ok nmX0 (by decide) (by rw [hy]; exact w_65) rfl rfl hn hf hdg he hl0 (by rw [hw]; exact kk)
theorem g_X8_109 {a : Nat} {fs : List Value} {v : Value} (hy : y.cls = RX8) (hdg : decode cc pc = .ok (.getfield 109, 3)) (he : w[a]? = some (.inr (0, fs))) (hv : fs[11]? = some v) (kk : R G l y cc nL ret d mc ms Q (pc + 3) lv (v :: st) w k n) : R G l y cc nL ret d mc ms Q pc lv (.ref a :: st) w k n := R_get (C := RX0) (ref := RX0) (T := TX0) (N := 13) (ci := 0) (j := 11) rfl inX0 (by decide) (by rw [hy]; exact w_66) rfl hdg he hv kk
theorem p_X8_109 {a : Nat} {fs : List Value} {v : Value} {w2 : VW} (hy : y.cls = RX8) (hdg : decode cc pc = .ok (.putfield 109, 3)) (he : w[a]? = some (.inr (0, fs))) (hl0 : 11 < fs.length) (hn : narrow (tyX0 11) v = v) (hf : fits (tyX0 11) v = true) (hw : w.set a (.inr (0, fs.set 11 v)) = w2) (kk : R G l y cc nL ret d mc ms Q (pc + 3) lv st w2 k n) : R G l y cc nL ret d mc ms Q pc lv (v :: .ref a :: st) w k n := R_put (C := RX0) (ref := RX0) (T := TX0) (ty0 := tyX0) (N := 13) (ci := 0) (j := 11) rfl inX0 tyX0_ok nmX0 (by decide) (by rw [hy]; exact w_66) rfl rfl hn hf hdg he hl0 (by rw [hw]; exact kk)
theorem g_X0_43 {a : Nat} {fs : List Value} {v : Value} (hy : y.cls = RX0) (hdg : decode cc pc = .ok (.getfield 43, 3)) (he : w[a]? = some (.inr (0, fs))) (hv : fs[12]? = some v) (kk : R G l y cc nL ret d mc ms Q (pc + 3) lv (v :: st) w k n) : R G l y cc nL ret d mc ms Q pc lv (.ref a :: st) w k n := R_get (C := RX0) (ref := RX0) (T := TX0) (N := 13) (ci := 0) (j := 12) rfl inX0 (by decide) (by rw [hy]; exact w_67) rfl hdg he hv kk
theorem p_X0_43 {a : Nat} {fs : List Value} {v : Value} {w2 : VW} (hy : y.cls = RX0) (hdg : decode cc pc = .ok (.putfield 43, 3)) (he : w[a]? = some (.inr (0, fs))) (hl0 : 12 < fs.length) (hn : narrow (tyX0 12) v = v) (hf : fits (tyX0 12) v = true) (hw : w.set a (.inr (0, fs.set 12 v)) = w2) (kk : R G l y cc nL ret d mc ms Q (pc + 3) lv st w2 k n) : R G l y cc nL ret d mc ms Q pc lv (v :: .ref a :: st) w k n := R_put (C := RX0) (ref := RX0) (T := TX0) (ty0 := tyX0) (N := 13) (ci := 0) (j := 12) rfl inX0 tyX0_ok nmX0 (by decide) (by rw [hy]; exact w_67) rfl rfl hn hf hdg he hl0 (by rw [hw]; exact kk)
theorem g_X8_115 {a : Nat} {fs : List Value} {v : Value} (hy : y.cls = RX8) (hdg : decode cc pc = .ok (.getfield 115, 3)) (he : w[a]? = some (.inr (0, fs))) (hv : fs[12]? = some v) (kk : R G l y cc nL ret d mc ms Q (pc + 3) lv (v :: st) w k n) : R G l y cc nL ret d mc ms Q pc lv (.ref a :: st) w k n := R_get (C := RX0) (ref := RX0) (T := TX0) (N := 13) (ci := 0) (j := 12) rfl inX0 (by decide) (by rw [hy]; exact w_68) rfl hdg he hv kk
theorem p_X8_115 {a : Nat} {fs : List Value} {v : Value} {w2 : VW} (hy : y.cls = RX8) (hdg : decode cc pc = .ok (.putfield 115, 3)) (he : w[a]? = some (.inr (0, fs))) (hl0 : 12 < fs.length) (hn : narrow (tyX0 12) v = v) (hf : fits (tyX0 12) v = true) (hw : w.set a (.inr (0, fs.set 12 v)) = w2) (kk : R G l y cc nL ret d mc ms Q (pc + 3) lv st w2 k n) : R G l y cc nL ret d mc ms Q pc lv (v :: .ref a :: st) w k n := R_put (C := RX0) (ref := RX0) (T := TX0) (ty0 := tyX0) (N := 13) (ci := 0) (j := 12) rfl inX0 tyX0_ok nmX0 (by decide) (by rw [hy]; exact w_68) rfl rfl hn hf hdg he hl0 (by rw [hw]; exact kk)
theorem g_X3_27 {a : Nat} {fs : List Value} {v : Value} (hy : y.cls = RX3) (hdg : decode cc pc = .ok (.getfield 27, 3)) (he : w[a]? = some (.inr (3, fs))) (hv : fs[0]? = some v) (kk : R G l y cc nL ret d mc ms Q (pc + 3) lv (v :: st) w k n) : R G l y cc nL ret d mc ms Q pc lv (.ref a :: st) w k n := R_get (C := RX3) (ref := RX3) (T := TX3) (N := 5) (ci := 3) (j := 0) rfl inX3 (by decide) (by rw [hy]; exact w_106) rfl hdg he hv kk
theorem p_X3_27 {a : Nat} {fs : List Value} {v : Value} {w2 : VW} (hy : y.cls = RX3) (hini : y.name = "<init>") (hdg : decode cc pc = .ok (.putfield 27, 3)) (he : w[a]? = some (.inr (3, fs))) (hl0 : 0 < fs.length) (hn : narrow (tyX3 0) v = v) (hf : fits (tyX3 0) v = true) (hw : w.set a (.inr (3, fs.set 0 v)) = w2) (kk : R G l y cc nL ret d mc ms Q (pc + 3) lv st w2 k n) : R G l y cc nL ret d mc ms Q pc lv (v :: .ref a :: st) w k n := R_putF (C := RX3) (ref := RX3) (T := TX3) (ty0 := tyX3) (N := 5) (ci := 3) (j := 0) rfl inX3 tyX3_ok nmX3 (by decide) (by rw [hy]; exact w_106) rfl rfl (by rw [hy]; rfl) hini hn hf hdg he hl0 (by rw [hw]; exact kk)
theorem g_X3_11 {a : Nat} {fs : List Value} {v : Value} (hy : y.cls = RX3) (hdg : decode cc pc = .ok (.getfield 11, 3)) (he : w[a]? = some (.inr (3, fs))) (hv : fs[1]? = some v) (kk : R G l y cc nL ret d mc ms Q (pc + 3) lv (v :: st) w k n) : R G l y cc nL ret d mc ms Q pc lv (.ref a :: st) w k n := R_get (C := RX3) (ref := RX3) (T := TX3) (N := 5) (ci := 3) (j := 1) rfl inX3 (by decide) (by rw [hy]; exact w_107) rfl hdg he hv kk
theorem p_X3_11 {a : Nat} {fs : List Value} {v : Value} {w2 : VW} (hy : y.cls = RX3) (hini : y.name = "<init>") (hdg : decode cc pc = .ok (.putfield 11, 3)) (he : w[a]? = some (.inr (3, fs))) (hl0 : 1 < fs.length) (hn : narrow (tyX3 1) v = v) (hf : fits (tyX3 1) v = true) (hw : w.set a (.inr (3, fs.set 1 v)) = w2) (kk : R G l y cc nL ret d mc ms Q (pc + 3) lv st w2 k n) : R G l y cc nL ret d mc ms Q pc lv (v :: .ref a :: st) w k n := R_putF (C := RX3) (ref := RX3) (T := TX3) (ty0 := tyX3) (N := 5) (ci := 3) (j := 1) rfl inX3 tyX3_ok nmX3 (by decide) (by rw [hy]; exact w_107) rfl rfl (by rw [hy]; rfl) hini hn hf hdg he hl0 (by rw [hw]; exact kk)
theorem g_X8_122 {a : Nat} {fs : List Value} {v : Value} (hy : y.cls = RX8) (hdg : decode cc pc = .ok (.getfield 122, 3)) (he : w[a]? = some (.inr (3, fs))) (hv : fs[1]? = some v) (kk : R G l y cc nL ret d mc ms Q (pc + 3) lv (v :: st) w k n) : R G l y cc nL ret d mc ms Q pc lv (.ref a :: st) w k n := R_get (C := RX3) (ref := RX3) (T := TX3) (N := 5) (ci := 3) (j := 1) rfl inX3 (by decide) (by rw [hy]; exact w_108) rfl hdg he hv kk
theorem g_X3_16 {a : Nat} {fs : List Value} {v : Value} (hy : y.cls = RX3) (hdg : decode cc pc = .ok (.getfield 16, 3)) (he : w[a]? = some (.inr (3, fs))) (hv : fs[2]? = some v) (kk : R G l y cc nL ret d mc ms Q (pc + 3) lv (v :: st) w k n) : R G l y cc nL ret d mc ms Q pc lv (.ref a :: st) w k n := R_get (C := RX3) (ref := RX3) (T := TX3) (N := 5) (ci := 3) (j := 2) rfl inX3 (by decide) (by rw [hy]; exact w_109) rfl hdg he hv kk
theorem p_X3_16 {a : Nat} {fs : List Value} {v : Value} {w2 : VW} (hy : y.cls = RX3) (hini : y.name = "<init>") (hdg : decode cc pc = .ok (.putfield 16, 3)) (he : w[a]? = some (.inr (3, fs))) (hl0 : 2 < fs.length) (hn : narrow (tyX3 2) v = v) (hf : fits (tyX3 2) v = true) (hw : w.set a (.inr (3, fs.set 2 v)) = w2) (kk : R G l y cc nL ret d mc ms Q (pc + 3) lv st w2 k n) : R G l y cc nL ret d mc ms Q pc lv (v :: .ref a :: st) w k n := R_putF (C := RX3) (ref := RX3) (T := TX3) (ty0 := tyX3) (N := 5) (ci := 3) (j := 2) rfl inX3 tyX3_ok nmX3 (by decide) (by rw [hy]; exact w_109) rfl rfl (by rw [hy]; rfl) hini hn hf hdg he hl0 (by rw [hw]; exact kk)
theorem g_X8_138 {a : Nat} {fs : List Value} {v : Value} (hy : y.cls = RX8) (hdg : decode cc pc = .ok (.getfield 138, 3)) (he : w[a]? = some (.inr (3, fs))) (hv : fs[2]? = some v) (kk : R G l y cc nL ret d mc ms Q (pc + 3) lv (v :: st) w k n) : R G l y cc nL ret d mc ms Q pc lv (.ref a :: st) w k n := R_get (C := RX3) (ref := RX3) (T := TX3) (N := 5) (ci := 3) (j := 2) rfl inX3 (by decide) (by rw [hy]; exact w_110) rfl hdg he hv kk
theorem g_X3_19 {a : Nat} {fs : List Value} {v : Value} (hy : y.cls = RX3) (hdg : decode cc pc = .ok (.getfield 19, 3)) (he : w[a]? = some (.inr (3, fs))) (hv : fs[3]? = some v) (kk : R G l y cc nL ret d mc ms Q (pc + 3) lv (v :: st) w k n) : R G l y cc nL ret d mc ms Q pc lv (.ref a :: st) w k n := R_get (C := RX3) (ref := RX3) (T := TX3) (N := 5) (ci := 3) (j := 3) rfl inX3 (by decide) (by rw [hy]; exact w_111) rfl hdg he hv kk
theorem p_X3_19 {a : Nat} {fs : List Value} {v : Value} {w2 : VW} (hy : y.cls = RX3) (hini : y.name = "<init>") (hdg : decode cc pc = .ok (.putfield 19, 3)) (he : w[a]? = some (.inr (3, fs))) (hl0 : 3 < fs.length) (hn : narrow (tyX3 3) v = v) (hf : fits (tyX3 3) v = true) (hw : w.set a (.inr (3, fs.set 3 v)) = w2) (kk : R G l y cc nL ret d mc ms Q (pc + 3) lv st w2 k n) : R G l y cc nL ret d mc ms Q pc lv (v :: .ref a :: st) w k n := R_putF (C := RX3) (ref := RX3) (T := TX3) (ty0 := tyX3) (N := 5) (ci := 3) (j := 3) rfl inX3 tyX3_ok nmX3 (by decide) (by rw [hy]; exact w_111) rfl rfl (by rw [hy]; rfl) hini hn hf hdg he hl0 (by rw [hw]; exact kk)
theorem g_X3_23 {a : Nat} {fs : List Value} {v : Value} (hy : y.cls = RX3) (hdg : decode cc pc = .ok (.getfield 23, 3)) (he : w[a]? = some (.inr (3, fs))) (hv : fs[4]? = some v) (kk : R G l y cc nL ret d mc ms Q (pc + 3) lv (v :: st) w k n) : R G l y cc nL ret d mc ms Q pc lv (.ref a :: st) w k n := R_get (C := RX3) (ref := RX3) (T := TX3) (N := 5) (ci := 3) (j := 4) rfl inX3 (by decide) (by rw [hy]; exact w_112) rfl hdg he hv kk
theorem p_X3_23 {a : Nat} {fs : List Value} {v : Value} {w2 : VW} (hy : y.cls = RX3) (hdg : decode cc pc = .ok (.putfield 23, 3)) (he : w[a]? = some (.inr (3, fs))) (hl0 : 4 < fs.length) (hn : narrow (tyX3 4) v = v) (hf : fits (tyX3 4) v = true) (hw : w.set a (.inr (3, fs.set 4 v)) = w2) (kk : R G l y cc nL ret d mc ms Q (pc + 3) lv st w2 k n) : R G l y cc nL ret d mc ms Q pc lv (v :: .ref a :: st) w k n := R_put (C := RX3) (ref := RX3) (T := TX3) (ty0 := tyX3) (N := 5) (ci := 3) (j := 4) rfl inX3 tyX3_ok nmX3 (by decide) (by rw [hy]; exact w_112) rfl rfl hn hf hdg he hl0 (by rw [hw]; exact kk)
theorem g_X8_112 {a : Nat} {fs : List Value} {v : Value} (hy : y.cls = RX8) (hdg : decode cc pc = .ok (.getfield 112, 3)) (he : w[a]? = some (.inr (3, fs))) (hv : fs[4]? = some v) (kk : R G l y cc nL ret d mc ms Q (pc + 3) lv (v :: st) w k n) : R G l y cc nL ret d mc ms Q pc lv (.ref a :: st) w k n := R_get (C := RX3) (ref := RX3) (T := TX3) (N := 5) (ci := 3) (j := 4) rfl inX3 (by decide) (by rw [hy]; exact w_113) rfl hdg he hv kk
theorem p_X8_112 {a : Nat} {fs : List Value} {v : Value} {w2 : VW} (hy : y.cls = RX8) (hdg : decode cc pc = .ok (.putfield 112, 3)) (he : w[a]? = some (.inr (3, fs))) (hl0 : 4 < fs.length) (hn : narrow (tyX3 4) v = v) (hf : fits (tyX3 4) v = true) (hw : w.set a (.inr (3, fs.set 4 v)) = w2) (kk : R G l y cc nL ret d mc ms Q (pc + 3) lv st w2 k n) : R G l y cc nL ret d mc ms Q pc lv (v :: .ref a :: st) w k n := R_put (C := RX3) (ref := RX3) (T := TX3) (ty0 := tyX3) (N := 5) (ci := 3) (j := 4) rfl inX3 tyX3_ok nmX3 (by decide) (by rw [hy]; exact w_113) rfl rfl hn hf hdg he hl0 (by rw [hw]; exact kk)
theorem g_X5_15 {a : Nat} {fs : List Value} {v : Value} (hy : y.cls = RX5) (hdg : decode cc pc = .ok (.getfield 15, 3)) (he : w[a]? = some (.inr (5, fs))) (hv : fs[0]? = some v) (kk : R G l y cc nL ret d mc ms Q (pc + 3) lv (v :: st) w k n) : R G l y cc nL ret d mc ms Q pc lv (.ref a :: st) w k n := R_get (C := RX5) (ref := RX5) (T := TX5) (N := 5) (ci := 5) (j := 0) rfl inX5 (by decide) (by rw [hy]; exact w_131) rfl hdg he hv kk
theorem p_X5_15 {a : Nat} {fs : List Value} {v : Value} {w2 : VW} (hy : y.cls = RX5) (hini : y.name = "<init>") (hdg : decode cc pc = .ok (.putfield 15, 3)) (he : w[a]? = some (.inr (5, fs))) (hl0 : 0 < fs.length) (hn : narrow (tyX5 0) v = v) (hf : fits (tyX5 0) v = true) (hw : w.set a (.inr (5, fs.set 0 v)) = w2) (kk : R G l y cc nL ret d mc ms Q (pc + 3) lv st w2 k n) : R G l y cc nL ret d mc ms Q pc lv (v :: .ref a :: st) w k n := R_putF (C := RX5) (ref := RX5) (T := TX5) (ty0 := tyX5) (N := 5) (ci := 5) (j := 0) rfl inX5 tyX5_ok nmX5 (by decide) (by rw [hy]; exact w_131) rfl rfl (by rw [hy]; rfl) hini hn hf hdg he hl0 (by rw [hw]; exact kk)
theorem g_X5_9 {a : Nat} {fs : List Value} {v : Value} (hy : y.cls = RX5) (hdg : decode cc pc = .ok (.getfield 9, 3)) (he : w[a]? = some (.inr (5, fs))) (hv : fs[1]? = some v) (kk : R G l y cc nL ret d mc ms Q (pc + 3) lv (v :: st) w k n) : R G l y cc nL ret d mc ms Q pc lv (.ref a :: st) w k n := R_get (C := RX5) (ref := RX5) (T := TX5) (N := 5) (ci := 5) (j := 1) rfl inX5 (by decide) (by rw [hy]; exact w_132) rfl hdg he hv kk
theorem p_X5_9 {a : Nat} {fs : List Value} {v : Value} {w2 : VW} (hy : y.cls = RX5) (hini : y.name = "<init>") (hdg : decode cc pc = .ok (.putfield 9, 3)) (he : w[a]? = some (.inr (5, fs))) (hl0 : 1 < fs.length) (hn : narrow (tyX5 1) v = v) (hf : fits (tyX5 1) v = true) (hw : w.set a (.inr (5, fs.set 1 v)) = w2) (kk : R G l y cc nL ret d mc ms Q (pc + 3) lv st w2 k n) : R G l y cc nL ret d mc ms Q pc lv (v :: .ref a :: st) w k n := R_putF (C := RX5) (ref := RX5) (T := TX5) (ty0 := tyX5) (N := 5) (ci := 5) (j := 1) rfl inX5 tyX5_ok nmX5 (by decide) (by rw [hy]; exact w_132) rfl rfl (by rw [hy]; rfl) hini hn hf hdg he hl0 (by rw [hw]; exact kk)
theorem g_X5_36 {a : Nat} {fs : List Value} {v : Value} (hy : y.cls = RX5) (hdg : decode cc pc = .ok (.getfield 36, 3)) (he : w[a]? = some (.inr (5, fs))) (hv : fs[2]? = some v) (kk : R G l y cc nL ret d mc ms Q (pc + 3) lv (v :: st) w k n) : R G l y cc nL ret d mc ms Q pc lv (.ref a :: st) w k n := R_get (C := RX5) (ref := RX5) (T := TX5) (N := 5) (ci := 5) (j := 2) rfl inX5 (by decide) (by rw [hy]; exact w_133) rfl hdg he hv kk
theorem p_X5_36 {a : Nat} {fs : List Value} {v : Value} {w2 : VW} (hy : y.cls = RX5) (hdg : decode cc pc = .ok (.putfield 36, 3)) (he : w[a]? = some (.inr (5, fs))) (hl0 : 2 < fs.length) (hn : narrow (tyX5 2) v = v) (hf : fits (tyX5 2) v = true) (hw : w.set a (.inr (5, fs.set 2 v)) = w2) (kk : R G l y cc nL ret d mc ms Q (pc + 3) lv st w2 k n) : R G l y cc nL ret d mc ms Q pc lv (v :: .ref a :: st) w k n := R_put (C := RX5) (ref := RX5) (T := TX5) (ty0 := tyX5) (N := 5) (ci := 5) (j := 2) rfl inX5 tyX5_ok nmX5 (by decide) (by rw [hy]; exact w_133) rfl rfl hn hf hdg he hl0 (by rw [hw]; exact kk)
theorem g_X8_184 {a : Nat} {fs : List Value} {v : Value} (hy : y.cls = RX8) (hdg : decode cc pc = .ok (.getfield 184, 3)) (he : w[a]? = some (.inr (5, fs))) (hv : fs[2]? = some v) (kk : R G l y cc nL ret d mc ms Q (pc + 3) lv (v :: st) w k n) : R G l y cc nL ret d mc ms Q pc lv (.ref a :: st) w k n := R_get (C := RX5) (ref := RX5) (T := TX5) (N := 5) (ci := 5) (j := 2) rfl inX5 (by decide) (by rw [hy]; exact w_134) rfl hdg he hv kk
theorem p_X8_184 {a : Nat} {fs : List Value} {v : Value} {w2 : VW} (hy : y.cls = RX8) (hdg : decode cc pc = .ok (.putfield 184, 3)) (he : w[a]? = some (.inr (5, fs))) (hl0 : 2 < fs.length) (hn : narrow (tyX5 2) v = v) (hf : fits (tyX5 2) v = true) (hw : w.set a (.inr (5, fs.set 2 v)) = w2) (kk : R G l y cc nL ret d mc ms Q (pc + 3) lv st w2 k n) : R G l y cc nL ret d mc ms Q pc lv (v :: .ref a :: st) w k n := R_put (C := RX5) (ref := RX5) (T := TX5) (ty0 := tyX5) (N := 5) (ci := 5) (j := 2) rfl inX5 tyX5_ok nmX5 (by decide) (by rw [hy]; exact w_134) rfl rfl hn hf hdg he hl0 (by rw [hw]; exact kk)
theorem g_X5_37 {a : Nat} {fs : List Value} {v : Value} (hy : y.cls = RX5) (hdg : decode cc pc = .ok (.getfield 37, 3)) (he : w[a]? = some (.inr (5, fs))) (hv : fs[3]? = some v) (kk : R G l y cc nL ret d mc ms Q (pc + 3) lv (v :: st) w k n) : R G l y cc nL ret d mc ms Q pc lv (.ref a :: st) w k n := R_get (C := RX5) (ref := RX5) (T := TX5) (N := 5) (ci := 5) (j := 3) rfl inX5 (by decide) (by rw [hy]; exact w_135) rfl hdg he hv kk
theorem p_X5_37 {a : Nat} {fs : List Value} {v : Value} {w2 : VW} (hy : y.cls = RX5) (hdg : decode cc pc = .ok (.putfield 37, 3)) (he : w[a]? = some (.inr (5, fs))) (hl0 : 3 < fs.length) (hn : narrow (tyX5 3) v = v) (hf : fits (tyX5 3) v = true) (hw : w.set a (.inr (5, fs.set 3 v)) = w2) (kk : R G l y cc nL ret d mc ms Q (pc + 3) lv st w2 k n) : R G l y cc nL ret d mc ms Q pc lv (v :: .ref a :: st) w k n := R_put (C := RX5) (ref := RX5) (T := TX5) (ty0 := tyX5) (N := 5) (ci := 5) (j := 3) rfl inX5 tyX5_ok nmX5 (by decide) (by rw [hy]; exact w_135) rfl rfl hn hf hdg he hl0 (by rw [hw]; exact kk)
theorem g_X8_185 {a : Nat} {fs : List Value} {v : Value} (hy : y.cls = RX8) (hdg : decode cc pc = .ok (.getfield 185, 3)) (he : w[a]? = some (.inr (5, fs))) (hv : fs[3]? = some v) (kk : R G l y cc nL ret d mc ms Q (pc + 3) lv (v :: st) w k n) : R G l y cc nL ret d mc ms Q pc lv (.ref a :: st) w k n := R_get (C := RX5) (ref := RX5) (T := TX5) (N := 5) (ci := 5) (j := 3) rfl inX5 (by decide) (by rw [hy]; exact w_136) rfl hdg he hv kk
theorem p_X8_185 {a : Nat} {fs : List Value} {v : Value} {w2 : VW} (hy : y.cls = RX8) (hdg : decode cc pc = .ok (.putfield 185, 3)) (he : w[a]? = some (.inr (5, fs))) (hl0 : 3 < fs.length) (hn : narrow (tyX5 3) v = v) (hf : fits (tyX5 3) v = true) (hw : w.set a (.inr (5, fs.set 3 v)) = w2) (kk : R G l y cc nL ret d mc ms Q (pc + 3) lv st w2 k n) : R G l y cc nL ret d mc ms Q pc lv (v :: .ref a :: st) w k n := R_put (C := RX5) (ref := RX5) (T := TX5) (ty0 := tyX5) (N := 5) (ci := 5) (j := 3) rfl inX5 tyX5_ok nmX5 (by decide) (by rw [hy]; exact w_136) rfl rfl hn hf hdg he hl0 (by rw [hw]; exact kk)
theorem g_X5_40 {a : Nat} {fs : List Value} {v : Value} (hy : y.cls = RX5) (hdg : decode cc pc = .ok (.getfield 40, 3)) (he : w[a]? = some (.inr (5, fs))) (hv : fs[4]? = some v) (kk : R G l y cc nL ret d mc ms Q (pc + 3) lv (v :: st) w k n) : R G l y cc nL ret d mc ms Q pc lv (.ref a :: st) w k n := R_get (C := RX5) (ref := RX5) (T := TX5) (N := 5) (ci := 5) (j := 4) rfl inX5 (by decide) (by rw [hy]; exact w_137) rfl hdg he hv kk
theorem p_X5_40 {a : Nat} {fs : List Value} {v : Value} {w2 : VW} (hy : y.cls = RX5) (hdg : decode cc pc = .ok (.putfield 40, 3)) (he : w[a]? = some (.inr (5, fs))) (hl0 : 4 < fs.length) (hn : narrow (tyX5 4) v = v) (hf : fits (tyX5 4) v = true) (hw : w.set a (.inr (5, fs.set 4 v)) = w2) (kk : R G l y cc nL ret d mc ms Q (pc + 3) lv st w2 k n) : R G l y cc nL ret d mc ms Q pc lv (v :: .ref a :: st) w k n := R_put (C := RX5) (ref := RX5) (T := TX5) (ty0 := tyX5) (N := 5) (ci := 5) (j := 4) rfl inX5 tyX5_ok nmX5 (by decide) (by rw [hy]; exact w_137) rfl rfl hn hf hdg he hl0 (by rw [hw]; exact kk)
theorem g_X8_188 {a : Nat} {fs : List Value} {v : Value} (hy : y.cls = RX8) (hdg : decode cc pc = .ok (.getfield 188, 3)) (he : w[a]? = some (.inr (5, fs))) (hv : fs[4]? = some v) (kk : R G l y cc nL ret d mc ms Q (pc + 3) lv (v :: st) w k n) : R G l y cc nL ret d mc ms Q pc lv (.ref a :: st) w k n := R_get (C := RX5) (ref := RX5) (T := TX5) (N := 5) (ci := 5) (j := 4) rfl inX5 (by decide) (by rw [hy]; exact w_138) rfl hdg he hv kk
theorem p_X8_188 {a : Nat} {fs : List Value} {v : Value} {w2 : VW} (hy : y.cls = RX8) (hdg : decode cc pc = .ok (.putfield 188, 3)) (he : w[a]? = some (.inr (5, fs))) (hl0 : 4 < fs.length) (hn : narrow (tyX5 4) v = v) (hf : fits (tyX5 4) v = true) (hw : w.set a (.inr (5, fs.set 4 v)) = w2) (kk : R G l y cc nL ret d mc ms Q (pc + 3) lv st w2 k n) : R G l y cc nL ret d mc ms Q pc lv (v :: .ref a :: st) w k n := R_put (C := RX5) (ref := RX5) (T := TX5) (ty0 := tyX5) (N := 5) (ci := 5) (j := 4) rfl inX5 tyX5_ok nmX5 (by decide) (by rw [hy]; exact w_138) rfl rfl hn hf hdg he hl0 (by rw [hw]; exact kk)
theorem g_X7_9 {a : Nat} {fs : List Value} {v : Value} (hy : y.cls = RX7) (hdg : decode cc pc = .ok (.getfield 9, 3)) (he : w[a]? = some (.inr (7, fs))) (hv : fs[0]? = some v) (kk : R G l y cc nL ret d mc ms Q (pc + 3) lv (v :: st) w k n) : R G l y cc nL ret d mc ms Q pc lv (.ref a :: st) w k n := R_get (C := RX7) (ref := RX7) (T := TX7) (N := 3) (ci := 7) (j := 0) rfl inX7 (by decide) (by rw [hy]; exact w_164) rfl hdg he hv kk
theorem p_X7_9 {a : Nat} {fs : List Value} {v : Value} {w2 : VW} (hy : y.cls = RX7) (hini : y.name = "<init>") (hdg : decode cc pc = .ok (.putfield 9, 3)) (he : w[a]? = some (.inr (7, fs))) (hl0 : 0 < fs.length) (hn : narrow (tyX7 0) v = v) (hf : fits (tyX7 0) v = true) (hw : w.set a (.inr (7, fs.set 0 v)) = w2) (kk : R G l y cc nL ret d mc ms Q (pc + 3) lv st w2 k n) : R G l y cc nL ret d mc ms Q pc lv (v :: .ref a :: st) w k n := R_putF (C := RX7) (ref := RX7) (T := TX7) (ty0 := tyX7) (N := 3) (ci := 7) (j := 0) rfl inX7 tyX7_ok nmX7 (by decide) (by rw [hy]; exact w_164) rfl rfl (by rw [hy]; rfl) hini hn hf hdg he hl0 (by rw [hw]; exact kk)
theorem g_X1_133 {a : Nat} {fs : List Value} {v : Value} (hy : y.cls = RX1) (hdg : decode cc pc = .ok (.getfield 133, 3)) (he : w[a]? = some (.inr (7, fs))) (hv : fs[0]? = some v) (kk : R G l y cc nL ret d mc ms Q (pc + 3) lv (v :: st) w k n) : R G l y cc nL ret d mc ms Q pc lv (.ref a :: st) w k n := R_get (C := RX7) (ref := RX7) (T := TX7) (N := 3) (ci := 7) (j := 0) rfl inX7 (by decide) (by rw [hy]; exact w_165) rfl hdg he hv kk
theorem g_X8_253 {a : Nat} {fs : List Value} {v : Value} (hy : y.cls = RX8) (hdg : decode cc pc = .ok (.getfield 253, 3)) (he : w[a]? = some (.inr (7, fs))) (hv : fs[0]? = some v) (kk : R G l y cc nL ret d mc ms Q (pc + 3) lv (v :: st) w k n) : R G l y cc nL ret d mc ms Q pc lv (.ref a :: st) w k n := R_get (C := RX7) (ref := RX7) (T := TX7) (N := 3) (ci := 7) (j := 0) rfl inX7 (by decide) (by rw [hy]; exact w_166) rfl hdg he hv kk
theorem g_X7_15 {a : Nat} {fs : List Value} {v : Value} (hy : y.cls = RX7) (hdg : decode cc pc = .ok (.getfield 15, 3)) (he : w[a]? = some (.inr (7, fs))) (hv : fs[1]? = some v) (kk : R G l y cc nL ret d mc ms Q (pc + 3) lv (v :: st) w k n) : R G l y cc nL ret d mc ms Q pc lv (.ref a :: st) w k n := R_get (C := RX7) (ref := RX7) (T := TX7) (N := 3) (ci := 7) (j := 1) rfl inX7 (by decide) (by rw [hy]; exact w_167) rfl hdg he hv kk
theorem p_X7_15 {a : Nat} {fs : List Value} {v : Value} {w2 : VW} (hy : y.cls = RX7) (hini : y.name = "<init>") (hdg : decode cc pc = .ok (.putfield 15, 3)) (he : w[a]? = some (.inr (7, fs))) (hl0 : 1 < fs.length) (hn : narrow (tyX7 1) v = v) (hf : fits (tyX7 1) v = true) (hw : w.set a (.inr (7, fs.set 1 v)) = w2) (kk : R G l y cc nL ret d mc ms Q (pc + 3) lv st w2 k n) : R G l y cc nL ret d mc ms Q pc lv (v :: .ref a :: st) w k n := R_putF (C := RX7) (ref := RX7) (T := TX7) (ty0 := tyX7) (N := 3) (ci := 7) (j := 1) rfl inX7 tyX7_ok nmX7 (by decide) (by rw [hy]; exact w_167) rfl rfl (by rw [hy]; rfl) hini hn hf hdg he hl0 (by rw [hw]; exact kk)
theorem g_X1_136 {a : Nat} {fs : List Value} {v : Value} (hy : y.cls = RX1) (hdg : decode cc pc = .ok (.getfield 136, 3)) (he : w[a]? = some (.inr (7, fs))) (hv : fs[1]? = some v) (kk : R G l y cc nL ret d mc ms Q (pc + 3) lv (v :: st) w k n) : R G l y cc nL ret d mc ms Q pc lv (.ref a :: st) w k n := R_get (C := RX7) (ref := RX7) (T := TX7) (N := 3) (ci := 7) (j := 1) rfl inX7 (by decide) (by rw [hy]; exact w_168) rfl hdg he hv kk
theorem g_X8_258 {a : Nat} {fs : List Value} {v : Value} (hy : y.cls = RX8) (hdg : decode cc pc = .ok (.getfield 258, 3)) (he : w[a]? = some (.inr (7, fs))) (hv : fs[1]? = some v) (kk : R G l y cc nL ret d mc ms Q (pc + 3) lv (v :: st) w k n) : R G l y cc nL ret d mc ms Q pc lv (.ref a :: st) w k n := R_get (C := RX7) (ref := RX7) (T := TX7) (N := 3) (ci := 7) (j := 1) rfl inX7 (by decide) (by rw [hy]; exact w_169) rfl hdg he hv kk
theorem g_X7_18 {a : Nat} {fs : List Value} {v : Value} (hy : y.cls = RX7) (hdg : decode cc pc = .ok (.getfield 18, 3)) (he : w[a]? = some (.inr (7, fs))) (hv : fs[2]? = some v) (kk : R G l y cc nL ret d mc ms Q (pc + 3) lv (v :: st) w k n) : R G l y cc nL ret d mc ms Q pc lv (.ref a :: st) w k n := R_get (C := RX7) (ref := RX7) (T := TX7) (N := 3) (ci := 7) (j := 2) rfl inX7 (by decide) (by rw [hy]; exact w_170) rfl hdg he hv kk
theorem p_X7_18 {a : Nat} {fs : List Value} {v : Value} {w2 : VW} (hy : y.cls = RX7) (hdg : decode cc pc = .ok (.putfield 18, 3)) (he : w[a]? = some (.inr (7, fs))) (hl0 : 2 < fs.length) (hn : narrow (tyX7 2) v = v) (hf : fits (tyX7 2) v = true) (hw : w.set a (.inr (7, fs.set 2 v)) = w2) (kk : R G l y cc nL ret d mc ms Q (pc + 3) lv st w2 k n) : R G l y cc nL ret d mc ms Q pc lv (v :: .ref a :: st) w k n := R_put (C := RX7) (ref := RX7) (T := TX7) (ty0 := tyX7) (N := 3) (ci := 7) (j := 2) rfl inX7 tyX7_ok nmX7 (by decide) (by rw [hy]; exact w_170) rfl rfl hn hf hdg he hl0 (by rw [hw]; exact kk)
theorem g_X1_126 {a : Nat} {fs : List Value} {v : Value} (hy : y.cls = RX1) (hdg : decode cc pc = .ok (.getfield 126, 3)) (he : w[a]? = some (.inr (7, fs))) (hv : fs[2]? = some v) (kk : R G l y cc nL ret d mc ms Q (pc + 3) lv (v :: st) w k n) : R G l y cc nL ret d mc ms Q pc lv (.ref a :: st) w k n := R_get (C := RX7) (ref := RX7) (T := TX7) (N := 3) (ci := 7) (j := 2) rfl inX7 (by decide) (by rw [hy]; exact w_171) rfl hdg he hv kk
theorem p_X1_126 {a : Nat} {fs : List Value} {v : Value} {w2 : VW} (hy : y.cls = RX1) (hdg : decode cc pc = .ok (.putfield 126, 3)) (he : w[a]? = some (.inr (7, fs))) (hl0 : 2 < fs.length) (hn : narrow (tyX7 2) v = v) (hf : fits (tyX7 2) v = true) (hw : w.set a (.inr (7, fs.set 2 v)) = w2) (kk : R G l y cc nL ret d mc ms Q (pc + 3) lv st w2 k n) : R G l y cc nL ret d mc ms Q pc lv (v :: .ref a :: st) w k n := R_put (C := RX7) (ref := RX7) (T := TX7) (ty0 := tyX7) (N := 3) (ci := 7) (j := 2) rfl inX7 tyX7_ok nmX7 (by decide) (by rw [hy]; exact w_171) rfl rfl hn hf hdg he hl0 (by rw [hw]; exact kk)
theorem g_X1_48 {a : Nat} {fs : List Value} {v : Value} (hy : y.cls = RX1) (hdg : decode cc pc = .ok (.getfield 48, 3)) (he : w[a]? = some (.inr (1, fs))) (hv : fs[0]? = some v) (kk : R G l y cc nL ret d mc ms Q (pc + 3) lv (v :: st) w k n) : R G l y cc nL ret d mc ms Q pc lv (.ref a :: st) w k n := R_get (C := RX1) (ref := RX1) (T := TX1) (N := 13) (ci := 1) (j := 0) rfl inX1 (by decide) (by rw [hy]; exact w_179) rfl hdg he hv kk
theorem p_X1_48 {a : Nat} {fs : List Value} {v : Value} {w2 : VW} (hy : y.cls = RX1) (hini : y.name = "<init>") (hdg : decode cc pc = .ok (.putfield 48, 3)) (he : w[a]? = some (.inr (1, fs))) (hl0 : 0 < fs.length) (hn : narrow (tyX1 0) v = v) (hf : fits (tyX1 0) v = true) (hw : w.set a (.inr (1, fs.set 0 v)) = w2) (kk : R G l y cc nL ret d mc ms Q (pc + 3) lv st w2 k n) : R G l y cc nL ret d mc ms Q pc lv (v :: .ref a :: st) w k n := R_putF (C := RX1) (ref := RX1) (T := TX1) (ty0 := tyX1) (N := 13) (ci := 1) (j := 0) rfl inX1 tyX1_ok nmX1 (by decide) (by rw [hy]; exact w_179) rfl rfl (by rw [hy]; rfl) hini hn hf hdg he hl0 (by rw [hw]; exact kk)
theorem g_X1_52 {a : Nat} {fs : List Value} {v : Value} (hy : y.cls = RX1) (hdg : decode cc pc = .ok (.getfield 52, 3)) (he : w[a]? = some (.inr (1, fs))) (hv : fs[1]? = some v) (kk : R G l y cc nL ret d mc ms Q (pc + 3) lv (v :: st) w k n) : R G l y cc nL ret d mc ms Q pc lv (.ref a :: st) w k n := R_get (C := RX1) (ref := RX1) (T := TX1) (N := 13) (ci := 1) (j := 1) rfl inX1 (by decide) (by rw [hy]; exact w_180) rfl hdg he hv kk
theorem p_X1_52 {a : Nat} {fs : List Value} {v : Value} {w2 : VW} (hy : y.cls = RX1) (hini : y.name = "<init>") (hdg : decode cc pc = .ok (.putfield 52, 3)) (he : w[a]? = some (.inr (1, fs))) (hl0 : 1 < fs.length) (hn : narrow (tyX1 1) v = v) (hf : fits (tyX1 1) v = true) (hw : w.set a (.inr (1, fs.set 1 v)) = w2) (kk : R G l y cc nL ret d mc ms Q (pc + 3) lv st w2 k n) : R G l y cc nL ret d mc ms Q pc lv (v :: .ref a :: st) w k n := R_putF (C := RX1) (ref := RX1) (T := TX1) (ty0 := tyX1) (N := 13) (ci := 1) (j := 1) rfl inX1 tyX1_ok nmX1 (by decide) (by rw [hy]; exact w_180) rfl rfl (by rw [hy]; rfl) hini hn hf hdg he hl0 (by rw [hw]; exact kk)
theorem g_X1_9 {a : Nat} {fs : List Value} {v : Value} (hy : y.cls = RX1) (hdg : decode cc pc = .ok (.getfield 9, 3)) (he : w[a]? = some (.inr (1, fs))) (hv : fs[2]? = some v) (kk : R G l y cc nL ret d mc ms Q (pc + 3) lv (v :: st) w k n) : R G l y cc nL ret d mc ms Q pc lv (.ref a :: st) w k n := R_get (C := RX1) (ref := RX1) (T := TX1) (N := 13) (ci := 1) (j := 2) rfl inX1 (by decide) (by rw [hy]; exact w_181) rfl hdg he hv kk
theorem p_X1_9 {a : Nat} {fs : List Value} {v : Value} {w2 : VW} (hy : y.cls = RX1) (hini : y.name = "<init>") (hdg : decode cc pc = .ok (.putfield 9, 3)) (he : w[a]? = some (.inr (1, fs))) (hl0 : 2 < fs.length) (hn : narrow (tyX1 2) v = v) (hf : fits (tyX1 2) v = true) (hw : w.set a (.inr (1, fs.set 2 v)) = w2) (kk : R G l y cc nL ret d mc ms Q (pc + 3) lv st w2 k n) : R G l y cc nL ret d mc ms Q pc lv (v :: .ref a :: st) w k n := R_putF (C := RX1) (ref := RX1) (T := TX1) (ty0 := tyX1) (N := 13) (ci := 1) (j := 2) rfl inX1 tyX1_ok nmX1 (by decide) (by rw [hy]; exact w_181) rfl rfl (by rw [hy]; rfl) hini hn hf hdg he hl0 (by rw [hw]; exact kk)
theorem g_X8_218 {a : Nat} {fs : List Value} {v : Value} (hy : y.cls = RX8) (hdg : decode cc pc = .ok (.getfield 218, 3)) (he : w[a]? = some (.inr (1, fs))) (hv : fs[2]? = some v) (kk : R G l y cc nL ret d mc ms Q (pc + 3) lv (v :: st) w k n) : R G l y cc nL ret d mc ms Q pc lv (.ref a :: st) w k n := R_get (C := RX1) (ref := RX1) (T := TX1) (N := 13) (ci := 1) (j := 2) rfl inX1 (by decide) (by rw [hy]; exact w_182) rfl hdg he hv kk
theorem g_X1_15 {a : Nat} {fs : List Value} {v : Value} (hy : y.cls = RX1) (hdg : decode cc pc = .ok (.getfield 15, 3)) (he : w[a]? = some (.inr (1, fs))) (hv : fs[3]? = some v) (kk : R G l y cc nL ret d mc ms Q (pc + 3) lv (v :: st) w k n) : R G l y cc nL ret d mc ms Q pc lv (.ref a :: st) w k n := R_get (C := RX1) (ref := RX1) (T := TX1) (N := 13) (ci := 1) (j := 3) rfl inX1 (by decide) (by rw [hy]; exact w_183) rfl hdg he hv kk
theorem p_X1_15 {a : Nat} {fs : List Value} {v : Value} {w2 : VW} (hy : y.cls = RX1) (hini : y.name = "<init>") (hdg : decode cc pc = .ok (.putfield 15, 3)) (he : w[a]? = some (.inr (1, fs))) (hl0 : 3 < fs.length) (hn : narrow (tyX1 3) v = v) (hf : fits (tyX1 3) v = true) (hw : w.set a (.inr (1, fs.set 3 v)) = w2) (kk : R G l y cc nL ret d mc ms Q (pc + 3) lv st w2 k n) : R G l y cc nL ret d mc ms Q pc lv (v :: .ref a :: st) w k n := R_putF (C := RX1) (ref := RX1) (T := TX1) (ty0 := tyX1) (N := 13) (ci := 1) (j := 3) rfl inX1 tyX1_ok nmX1 (by decide) (by rw [hy]; exact w_183) rfl rfl (by rw [hy]; rfl) hini hn hf hdg he hl0 (by rw [hw]; exact kk)
theorem g_X8_221 {a : Nat} {fs : List Value} {v : Value} (hy : y.cls = RX8) (hdg : decode cc pc = .ok (.getfield 221, 3)) (he : w[a]? = some (.inr (1, fs))) (hv : fs[3]? = some v) (kk : R G l y cc nL ret d mc ms Q (pc + 3) lv (v :: st) w k n) : R G l y cc nL ret d mc ms Q pc lv (.ref a :: st) w k n := R_get (C := RX1) (ref := RX1) (T := TX1) (N := 13) (ci := 1) (j := 3) rfl inX1 (by decide) (by rw [hy]; exact w_184) rfl hdg he hv kk
theorem g_X1_18 {a : Nat} {fs : List Value} {v : Value} (hy : y.cls = RX1) (hdg : decode cc pc = .ok (.getfield 18, 3)) (he : w[a]? = some (.inr (1, fs))) (hv : fs[4]? = some v) (kk : R G l y cc nL ret d mc ms Q (pc + 3) lv (v :: st) w k n) : R G l y cc nL ret d mc ms Q pc lv (.ref a :: st) w k n := R_get (C := RX1) (ref := RX1) (T := TX1) (N := 13) (ci := 1) (j := 4) rfl inX1 (by decide) (by rw [hy]; exact w_185) rfl hdg he hv kk
theorem p_X1_18 {a : Nat} {fs : List Value} {v : Value} {w2 : VW} (hy : y.cls = RX1) (hini : y.name = "<init>") (hdg : decode cc pc = .ok (.putfield 18, 3)) (he : w[a]? = some (.inr (1, fs))) (hl0 : 4 < fs.length) (hn : narrow (tyX1 4) v = v) (hf : fits (tyX1 4) v = true) (hw : w.set a (.inr (1, fs.set 4 v)) = w2) (kk : R G l y cc nL ret d mc ms Q (pc + 3) lv st w2 k n) : R G l y cc nL ret d mc ms Q pc lv (v :: .ref a :: st) w k n := R_putF (C := RX1) (ref := RX1) (T := TX1) (ty0 := tyX1) (N := 13) (ci := 1) (j := 4) rfl inX1 tyX1_ok nmX1 (by decide) (by rw [hy]; exact w_185) rfl rfl (by rw [hy]; rfl) hini hn hf hdg he hl0 (by rw [hw]; exact kk)
theorem g_X8_227 {a : Nat} {fs : List Value} {v : Value} (hy : y.cls = RX8) (hdg : decode cc pc = .ok (.getfield 227, 3)) (he : w[a]? = some (.inr (1, fs))) (hv : fs[4]? = some v) (kk : R G l y cc nL ret d mc ms Q (pc + 3) lv (v :: st) w k n) : R G l y cc nL ret d mc ms Q pc lv (.ref a :: st) w k n := R_get (C := RX1) (ref := RX1) (T := TX1) (N := 13) (ci := 1) (j := 4) rfl inX1 (by decide) (by rw [hy]; exact w_186) rfl hdg he hv kk
theorem g_X1_21 {a : Nat} {fs : List Value} {v : Value} (hy : y.cls = RX1) (hdg : decode cc pc = .ok (.getfield 21, 3)) (he : w[a]? = some (.inr (1, fs))) (hv : fs[5]? = some v) (kk : R G l y cc nL ret d mc ms Q (pc + 3) lv (v :: st) w k n) : R G l y cc nL ret d mc ms Q pc lv (.ref a :: st) w k n := R_get (C := RX1) (ref := RX1) (T := TX1) (N := 13) (ci := 1) (j := 5) rfl inX1 (by decide) (by rw [hy]; exact w_187) rfl hdg he hv kk
theorem p_X1_21 {a : Nat} {fs : List Value} {v : Value} {w2 : VW} (hy : y.cls = RX1) (hini : y.name = "<init>") (hdg : decode cc pc = .ok (.putfield 21, 3)) (he : w[a]? = some (.inr (1, fs))) (hl0 : 5 < fs.length) (hn : narrow (tyX1 5) v = v) (hf : fits (tyX1 5) v = true) (hw : w.set a (.inr (1, fs.set 5 v)) = w2) (kk : R G l y cc nL ret d mc ms Q (pc + 3) lv st w2 k n) : R G l y cc nL ret d mc ms Q pc lv (v :: .ref a :: st) w k n := R_putF (C := RX1) (ref := RX1) (T := TX1) (ty0 := tyX1) (N := 13) (ci := 1) (j := 5) rfl inX1 tyX1_ok nmX1 (by decide) (by rw [hy]; exact w_187) rfl rfl (by rw [hy]; rfl) hini hn hf hdg he hl0 (by rw [hw]; exact kk)
theorem g_X8_230 {a : Nat} {fs : List Value} {v : Value} (hy : y.cls = RX8) (hdg : decode cc pc = .ok (.getfield 230, 3)) (he : w[a]? = some (.inr (1, fs))) (hv : fs[5]? = some v) (kk : R G l y cc nL ret d mc ms Q (pc + 3) lv (v :: st) w k n) : R G l y cc nL ret d mc ms Q pc lv (.ref a :: st) w k n := R_get (C := RX1) (ref := RX1) (T := TX1) (N := 13) (ci := 1) (j := 5) rfl inX1 (by decide) (by rw [hy]; exact w_188) rfl hdg he hv kk
theorem g_X1_26 {a : Nat} {fs : List Value} {v : Value} (hy : y.cls = RX1) (hdg : decode cc pc = .ok (.getfield 26, 3)) (he : w[a]? = some (.inr (1, fs))) (hv : fs[6]? = some v) (kk : R G l y cc nL ret d mc ms Q (pc + 3) lv (v :: st) w k n) : R G l y cc nL ret d mc ms Q pc lv (.ref a :: st) w k n := R_get (C := RX1) (ref := RX1) (T := TX1) (N := 13) (ci := 1) (j := 6) rfl inX1 (by decide) (by rw [hy]; exact w_189) rfl hdg he hv kk
theorem p_X1_26 {a : Nat} {fs : List Value} {v : Value} {w2 : VW} (hy : y.cls = RX1) (hini : y.name = "<init>") (hdg : decode cc pc = .ok (.putfield 26, 3)) (he : w[a]? = some (.inr (1, fs))) (hl0 : 6 < fs.length) (hn : narrow (tyX1 6) v = v) (hf : fits (tyX1 6) v = true) (hw : w.set a (.inr (1, fs.set 6 v)) = w2) (kk : R G l y cc nL ret d mc ms Q (pc + 3) lv st w2 k n) : R G l y cc nL ret d mc ms Q pc lv (v :: .ref a :: st) w k n := R_putF (C := RX1) (ref := RX1) (T := TX1) (ty0 := tyX1) (N := 13) (ci := 1) (j := 6) rfl inX1 tyX1_ok nmX1 (by decide) (by rw [hy]; exact w_189) rfl rfl (by rw [hy]; rfl) hini hn hf hdg he hl0 (by rw [hw]; exact kk)
theorem g_X8_224 {a : Nat} {fs : List Value} {v : Value} (hy : y.cls = RX8) (hdg : decode cc pc = .ok (.getfield 224, 3)) (he : w[a]? = some (.inr (1, fs))) (hv : fs[6]? = some v) (kk : R G l y cc nL ret d mc ms Q (pc + 3) lv (v :: st) w k n) : R G l y cc nL ret d mc ms Q pc lv (.ref a :: st) w k n := R_get (C := RX1) (ref := RX1) (T := TX1) (N := 13) (ci := 1) (j := 6) rfl inX1 (by decide) (by rw [hy]; exact w_190) rfl hdg he hv kk
theorem g_X1_29 {a : Nat} {fs : List Value} {v : Value} (hy : y.cls = RX1) (hdg : decode cc pc = .ok (.getfield 29, 3)) (he : w[a]? = some (.inr (1, fs))) (hv : fs[7]? = some v) (kk : R G l y cc nL ret d mc ms Q (pc + 3) lv (v :: st) w k n) : R G l y cc nL ret d mc ms Q pc lv (.ref a :: st) w k n := R_get (C := RX1) (ref := RX1) (T := TX1) (N := 13) (ci := 1) (j := 7) rfl inX1 (by decide) (by rw [hy]; exact w_191) rfl hdg he hv kk
theorem p_X1_29 {a : Nat} {fs : List Value} {v : Value} {w2 : VW} (hy : y.cls = RX1) (hini : y.name = "<init>") (hdg : decode cc pc = .ok (.putfield 29, 3)) (he : w[a]? = some (.inr (1, fs))) (hl0 : 7 < fs.length) (hn : narrow (tyX1 7) v = v) (hf : fits (tyX1 7) v = true) (hw : w.set a (.inr (1, fs.set 7 v)) = w2) (kk : R G l y cc nL ret d mc ms Q (pc + 3) lv st w2 k n) : R G l y cc nL ret d mc ms Q pc lv (v :: .ref a :: st) w k n := R_putF (C := RX1) (ref := RX1) (T := TX1) (ty0 := tyX1) (N := 13) (ci := 1) (j := 7) rfl inX1 tyX1_ok nmX1 (by decide) (by rw [hy]; exact w_191) rfl rfl (by rw [hy]; rfl) hini hn hf hdg he hl0 (by rw [hw]; exact kk)
theorem g_X8_236 {a : Nat} {fs : List Value} {v : Value} (hy : y.cls = RX8) (hdg : decode cc pc = .ok (.getfield 236, 3)) (he : w[a]? = some (.inr (1, fs))) (hv : fs[7]? = some v) (kk : R G l y cc nL ret d mc ms Q (pc + 3) lv (v :: st) w k n) : R G l y cc nL ret d mc ms Q pc lv (.ref a :: st) w k n := R_get (C := RX1) (ref := RX1) (T := TX1) (N := 13) (ci := 1) (j := 7) rfl inX1 (by decide) (by rw [hy]; exact w_192) rfl hdg he hv kk
theorem g_X1_32 {a : Nat} {fs : List Value} {v : Value} (hy : y.cls = RX1) (hdg : decode cc pc = .ok (.getfield 32, 3)) (he : w[a]? = some (.inr (1, fs))) (hv : fs[8]? = some v) (kk : R G l y cc nL ret d mc ms Q (pc + 3) lv (v :: st) w k n) : R G l y cc nL ret d mc ms Q pc lv (.ref a :: st) w k n := R_get (C := RX1) (ref := RX1) (T := TX1) (N := 13) (ci := 1) (j := 8) rfl inX1 (by decide) (by rw [hy]; exact w_193) rfl hdg he hv kk
theorem p_X1_32 {a : Nat} {fs : List Value} {v : Value} {w2 : VW} (hy : y.cls = RX1) (hini : y.name = "<init>") (hdg : decode cc pc = .ok (.putfield 32, 3)) (he : w[a]? = some (.inr (1, fs))) (hl0 : 8 < fs.length) (hn : narrow (tyX1 8) v = v) (hf : fits (tyX1 8) v = true) (hw : w.set a (.inr (1, fs.set 8 v)) = w2) (kk : R G l y cc nL ret d mc ms Q (pc + 3) lv st w2 k n) : R G l y cc nL ret d mc ms Q pc lv (v :: .ref a :: st) w k n := R_putF (C := RX1) (ref := RX1) (T := TX1) (ty0 := tyX1) (N := 13) (ci := 1) (j := 8) rfl inX1 tyX1_ok nmX1 (by decide) (by rw [hy]; exact w_193) rfl rfl (by rw [hy]; rfl) hini hn hf hdg he hl0 (by rw [hw]; exact kk)
theorem g_X8_239 {a : Nat} {fs : List Value} {v : Value} (hy : y.cls = RX8) (hdg : decode cc pc = .ok (.getfield 239, 3)) (he : w[a]? = some (.inr (1, fs))) (hv : fs[8]? = some v) (kk : R G l y cc nL ret d mc ms Q (pc + 3) lv (v :: st) w k n) : R G l y cc nL ret d mc ms Q pc lv (.ref a :: st) w k n := R_get (C := RX1) (ref := RX1) (T := TX1) (N := 13) (ci := 1) (j := 8) rfl inX1 (by decide) (by rw [hy]; exact w_194) rfl hdg he hv kk
theorem g_X1_139 {a : Nat} {fs : List Value} {v : Value} (hy : y.cls = RX1) (hdg : decode cc pc = .ok (.getfield 139, 3)) (he : w[a]? = some (.inr (1, fs))) (hv : fs[9]? = some v) (kk : R G l y cc nL ret d mc ms Q (pc + 3) lv (v :: st) w k n) : R G l y cc nL ret d mc ms Q pc lv (.ref a :: st) w k n := R_get (C := RX1) (ref := RX1) (T := TX1) (N := 13) (ci := 1) (j := 9) rfl inX1 (by decide) (by rw [hy]; exact w_195) rfl hdg he hv kk
theorem p_X1_139 {a : Nat} {fs : List Value} {v : Value} {w2 : VW} (hy : y.cls = RX1) (hdg : decode cc pc = .ok (.putfield 139, 3)) (he : w[a]? = some (.inr (1, fs))) (hl0 : 9 < fs.length) (hn : narrow (tyX1 9) v = v) (hf : fits (tyX1 9) v = true) (hw : w.set a (.inr (1, fs.set 9 v)) = w2) (kk : R G l y cc nL ret d mc ms Q (pc + 3) lv st w2 k n) : R G l y cc nL ret d mc ms Q pc lv (v :: .ref a :: st) w k n := R_put (C := RX1) (ref := RX1) (T := TX1) (ty0 := tyX1) (N := 13) (ci := 1) (j := 9) rfl inX1 tyX1_ok nmX1 (by decide) (by rw [hy]; exact w_195) rfl rfl hn hf hdg he hl0 (by rw [hw]; exact kk)
theorem g_X8_233 {a : Nat} {fs : List Value} {v : Value} (hy : y.cls = RX8) (hdg : decode cc pc = .ok (.getfield 233, 3)) (he : w[a]? = some (.inr (1, fs))) (hv : fs[9]? = some v) (kk : R G l y cc nL ret d mc ms Q (pc + 3) lv (v :: st) w k n) : R G l y cc nL ret d mc ms Q pc lv (.ref a :: st) w k n := R_get (C := RX1) (ref := RX1) (T := TX1) (N := 13) (ci := 1) (j := 9) rfl inX1 (by decide) (by rw [hy]; exact w_196) rfl hdg he hv kk
theorem p_X8_233 {a : Nat} {fs : List Value} {v : Value} {w2 : VW} (hy : y.cls = RX8) (hdg : decode cc pc = .ok (.putfield 233, 3)) (he : w[a]? = some (.inr (1, fs))) (hl0 : 9 < fs.length) (hn : narrow (tyX1 9) v = v) (hf : fits (tyX1 9) v = true) (hw : w.set a (.inr (1, fs.set 9 v)) = w2) (kk : R G l y cc nL ret d mc ms Q (pc + 3) lv st w2 k n) : R G l y cc nL ret d mc ms Q pc lv (v :: .ref a :: st) w k n := R_put (C := RX1) (ref := RX1) (T := TX1) (ty0 := tyX1) (N := 13) (ci := 1) (j := 9) rfl inX1 tyX1_ok nmX1 (by decide) (by rw [hy]; exact w_196) rfl rfl hn hf hdg he hl0 (by rw [hw]; exact kk)
theorem g_X1_38 {a : Nat} {fs : List Value} {v : Value} (hy : y.cls = RX1) (hdg : decode cc pc = .ok (.getfield 38, 3)) (he : w[a]? = some (.inr (1, fs))) (hv : fs[10]? = some v) (kk : R G l y cc nL ret d mc ms Q (pc + 3) lv (v :: st) w k n) : R G l y cc nL ret d mc ms Q pc lv (.ref a :: st) w k n := R_get (C := RX1) (ref := RX1) (T := TX1) (N := 13) (ci := 1) (j := 10) rfl inX1 (by decide) (by rw [hy]; exact w_197) rfl hdg he hv kk
theorem p_X1_38 {a : Nat} {fs : List Value} {v : Value} {w2 : VW} (hy : y.cls = RX1) (hini : y.name = "<init>") (hdg : decode cc pc = .ok (.putfield 38, 3)) (he : w[a]? = some (.inr (1, fs))) (hl0 : 10 < fs.length) (hn : narrow (tyX1 10) v = v) (hf : fits (tyX1 10) v = true) (hw : w.set a (.inr (1, fs.set 10 v)) = w2) (kk : R G l y cc nL ret d mc ms Q (pc + 3) lv st w2 k n) : R G l y cc nL ret d mc ms Q pc lv (v :: .ref a :: st) w k n := R_putF (C := RX1) (ref := RX1) (T := TX1) (ty0 := tyX1) (N := 13) (ci := 1) (j := 10) rfl inX1 tyX1_ok nmX1 (by decide) (by rw [hy]; exact w_197) rfl rfl (by rw [hy]; rfl) hini hn hf hdg he hl0 (by rw [hw]; exact kk)
theorem g_X8_249 {a : Nat} {fs : List Value} {v : Value} (hy : y.cls = RX8) (hdg : decode cc pc = .ok (.getfield 249, 3)) (he : w[a]? = some (.inr (1, fs))) (hv : fs[10]? = some v) (kk : R G l y cc nL ret d mc ms Q (pc + 3) lv (v :: st) w k n) : R G l y cc nL ret d mc ms Q pc lv (.ref a :: st) w k n := R_get (C := RX1) (ref := RX1) (T := TX1) (N := 13) (ci := 1) (j := 10) rfl inX1 (by decide) (by rw [hy]; exact w_198) rfl hdg he hv kk
theorem g_X1_42 {a : Nat} {fs : List Value} {v : Value} (hy : y.cls = RX1) (hdg : decode cc pc = .ok (.getfield 42, 3)) (he : w[a]? = some (.inr (1, fs))) (hv : fs[11]? = some v) (kk : R G l y cc nL ret d mc ms Q (pc + 3) lv (v :: st) w k n) : R G l y cc nL ret d mc ms Q pc lv (.ref a :: st) w k n := R_get (C := RX1) (ref := RX1) (T := TX1) (N := 13) (ci := 1) (j := 11) rfl inX1 (by decide) (by rw [hy]; exact w_199) rfl hdg he hv kk
theorem p_X1_42 {a : Nat} {fs : List Value} {v : Value} {w2 : VW} (hy : y.cls = RX1) (hini : y.name = "<init>") (hdg : decode cc pc = .ok (.putfield 42, 3)) (he : w[a]? = some (.inr (1, fs))) (hl0 : 11 < fs.length) (hn : narrow (tyX1 11) v = v) (hf : fits (tyX1 11) v = true) (hw : w.set a (.inr (1, fs.set 11 v)) = w2) (kk : R G l y cc nL ret d mc ms Q (pc + 3) lv st w2 k n) : R G l y cc nL ret d mc ms Q pc lv (v :: .ref a :: st) w k n := R_putF (C := RX1) (ref := RX1) (T := TX1) (ty0 := tyX1) (N := 13) (ci := 1) (j := 11) rfl inX1 tyX1_ok nmX1 (by decide) (by rw [hy]; exact w_199) rfl rfl (by rw [hy]; rfl) hini hn hf hdg he hl0 (by rw [hw]; exact kk)
theorem g_X8_261 {a : Nat} {fs : List Value} {v : Value} (hy : y.cls = RX8) (hdg : decode cc pc = .ok (.getfield 261, 3)) (he : w[a]? = some (.inr (1, fs))) (hv : fs[11]? = some v) (kk : R G l y cc nL ret d mc ms Q (pc + 3) lv (v :: st) w k n) : R G l y cc nL ret d mc ms Q pc lv (.ref a :: st) w k n := R_get (C := RX1) (ref := RX1) (T := TX1) (N := 13) (ci := 1) (j := 11) rfl inX1 (by decide) (by rw [hy]; exact w_200) rfl hdg he hv kk
theorem g_X1_45 {a : Nat} {fs : List Value} {v : Value} (hy : y.cls = RX1) (hdg : decode cc pc = .ok (.getfield 45, 3)) (he : w[a]? = some (.inr (1, fs))) (hv : fs[12]? = some v) (kk : R G l y cc nL ret d mc ms Q (pc + 3) lv (v :: st) w k n) : R G l y cc nL ret d mc ms Q pc lv (.ref a :: st) w k n := R_get (C := RX1) (ref := RX1) (T := TX1) (N := 13) (ci := 1) (j := 12) rfl inX1 (by decide) (by rw [hy]; exact w_201) rfl hdg he hv kk
theorem p_X1_45 {a : Nat} {fs : List Value} {v : Value} {w2 : VW} (hy : y.cls = RX1) (hini : y.name = "<init>") (hdg : decode cc pc = .ok (.putfield 45, 3)) (he : w[a]? = some (.inr (1, fs))) (hl0 : 12 < fs.length) (hn : narrow (tyX1 12) v = v) (hf : fits (tyX1 12) v = true) (hw : w.set a (.inr (1, fs.set 12 v)) = w2) (kk : R G l y cc nL ret d mc ms Q (pc + 3) lv st w2 k n) : R G l y cc nL ret d mc ms Q pc lv (v :: .ref a :: st) w k n := R_putF (C := RX1) (ref := RX1) (T := TX1) (ty0 := tyX1) (N := 13) (ci := 1) (j := 12) rfl inX1 tyX1_ok nmX1 (by decide) (by rw [hy]; exact w_201) rfl rfl (by rw [hy]; rfl) hini hn hf hdg he hl0 (by rw [hw]; exact kk)
theorem g_X8_246 {a : Nat} {fs : List Value} {v : Value} (hy : y.cls = RX8) (hdg : decode cc pc = .ok (.getfield 246, 3)) (he : w[a]? = some (.inr (1, fs))) (hv : fs[12]? = some v) (kk : R G l y cc nL ret d mc ms Q (pc + 3) lv (v :: st) w k n) : R G l y cc nL ret d mc ms Q pc lv (.ref a :: st) w k n := R_get (C := RX1) (ref := RX1) (T := TX1) (N := 13) (ci := 1) (j := 12) rfl inX1 (by decide) (by rw [hy]; exact w_202) rfl hdg he hv kk
theorem g_X2_9 {a : Nat} {fs : List Value} {v : Value} (hy : y.cls = RX2) (hdg : decode cc pc = .ok (.getfield 9, 3)) (he : w[a]? = some (.inr (2, fs))) (hv : fs[0]? = some v) (kk : R G l y cc nL ret d mc ms Q (pc + 3) lv (v :: st) w k n) : R G l y cc nL ret d mc ms Q pc lv (.ref a :: st) w k n := R_get (C := RX2) (ref := RX2) (T := TX2) (N := 4) (ci := 2) (j := 0) rfl inX2 (by decide) (by rw [hy]; exact w_237) rfl hdg he hv kk
theorem p_X2_9 {a : Nat} {fs : List Value} {v : Value} {w2 : VW} (hy : y.cls = RX2) (hini : y.name = "<init>") (hdg : decode cc pc = .ok (.putfield 9, 3)) (he : w[a]? = some (.inr (2, fs))) (hl0 : 0 < fs.length) (hn : narrow (tyX2 0) v = v) (hf : fits (tyX2 0) v = true) (hw : w.set a (.inr (2, fs.set 0 v)) = w2) (kk : R G l y cc nL ret d mc ms Q (pc + 3) lv st w2 k n) : R G l y cc nL ret d mc ms Q pc lv (v :: .ref a :: st) w k n := R_putF (C := RX2) (ref := RX2) (T := TX2) (ty0 := tyX2) (N := 4) (ci := 2) (j := 0) rfl inX2 tyX2_ok nmX2 (by decide) (by rw [hy]; exact w_237) rfl rfl (by rw [hy]; rfl) hini hn hf hdg he hl0 (by rw [hw]; exact kk)
theorem g_X8_264 {a : Nat} {fs : List Value} {v : Value} (hy : y.cls = RX8) (hdg : decode cc pc = .ok (.getfield 264, 3)) (he : w[a]? = some (.inr (2, fs))) (hv : fs[0]? = some v) (kk : R G l y cc nL ret d mc ms Q (pc + 3) lv (v :: st) w k n) : R G l y cc nL ret d mc ms Q pc lv (.ref a :: st) w k n := R_get (C := RX2) (ref := RX2) (T := TX2) (N := 4) (ci := 2) (j := 0) rfl inX2 (by decide) (by rw [hy]; exact w_238) rfl hdg he hv kk
theorem g_X2_23 {a : Nat} {fs : List Value} {v : Value} (hy : y.cls = RX2) (hdg : decode cc pc = .ok (.getfield 23, 3)) (he : w[a]? = some (.inr (2, fs))) (hv : fs[1]? = some v) (kk : R G l y cc nL ret d mc ms Q (pc + 3) lv (v :: st) w k n) : R G l y cc nL ret d mc ms Q pc lv (.ref a :: st) w k n := R_get (C := RX2) (ref := RX2) (T := TX2) (N := 4) (ci := 2) (j := 1) rfl inX2 (by decide) (by rw [hy]; exact w_239) rfl hdg he hv kk
theorem p_X2_23 {a : Nat} {fs : List Value} {v : Value} {w2 : VW} (hy : y.cls = RX2) (hdg : decode cc pc = .ok (.putfield 23, 3)) (he : w[a]? = some (.inr (2, fs))) (hl0 : 1 < fs.length) (hn : narrow (tyX2 1) v = v) (hf : fits (tyX2 1) v = true) (hw : w.set a (.inr (2, fs.set 1 v)) = w2) (kk : R G l y cc nL ret d mc ms Q (pc + 3) lv st w2 k n) : R G l y cc nL ret d mc ms Q pc lv (v :: .ref a :: st) w k n := R_put (C := RX2) (ref := RX2) (T := TX2) (ty0 := tyX2) (N := 4) (ci := 2) (j := 1) rfl inX2 tyX2_ok nmX2 (by decide) (by rw [hy]; exact w_239) rfl rfl hn hf hdg he hl0 (by rw [hw]; exact kk)
theorem g_X8_267 {a : Nat} {fs : List Value} {v : Value} (hy : y.cls = RX8) (hdg : decode cc pc = .ok (.getfield 267, 3)) (he : w[a]? = some (.inr (2, fs))) (hv : fs[1]? = some v) (kk : R G l y cc nL ret d mc ms Q (pc + 3) lv (v :: st) w k n) : R G l y cc nL ret d mc ms Q pc lv (.ref a :: st) w k n := R_get (C := RX2) (ref := RX2) (T := TX2) (N := 4) (ci := 2) (j := 1) rfl inX2 (by decide) (by rw [hy]; exact w_240) rfl hdg he hv kk
theorem p_X8_267 {a : Nat} {fs : List Value} {v : Value} {w2 : VW} (hy : y.cls = RX8) (hdg : decode cc pc = .ok (.putfield 267, 3)) (he : w[a]? = some (.inr (2, fs))) (hl0 : 1 < fs.length) (hn : narrow (tyX2 1) v = v) (hf : fits (tyX2 1) v = true) (hw : w.set a (.inr (2, fs.set 1 v)) = w2) (kk : R G l y cc nL ret d mc ms Q (pc + 3) lv st w2 k n) : R G l y cc nL ret d mc ms Q pc lv (v :: .ref a :: st) w k n := R_put (C := RX2) (ref := RX2) (T := TX2) (ty0 := tyX2) (N := 4) (ci := 2) (j := 1) rfl inX2 tyX2_ok nmX2 (by decide) (by rw [hy]; exact w_240) rfl rfl hn hf hdg he hl0 (by rw [hw]; exact kk)
theorem g_X2_17 {a : Nat} {fs : List Value} {v : Value} (hy : y.cls = RX2) (hdg : decode cc pc = .ok (.getfield 17, 3)) (he : w[a]? = some (.inr (2, fs))) (hv : fs[2]? = some v) (kk : R G l y cc nL ret d mc ms Q (pc + 3) lv (v :: st) w k n) : R G l y cc nL ret d mc ms Q pc lv (.ref a :: st) w k n := R_get (C := RX2) (ref := RX2) (T := TX2) (N := 4) (ci := 2) (j := 2) rfl inX2 (by decide) (by rw [hy]; exact w_241) rfl hdg he hv kk
theorem p_X2_17 {a : Nat} {fs : List Value} {v : Value} {w2 : VW} (hy : y.cls = RX2) (hini : y.name = "<init>") (hdg : decode cc pc = .ok (.putfield 17, 3)) (he : w[a]? = some (.inr (2, fs))) (hl0 : 2 < fs.length) (hn : narrow (tyX2 2) v = v) (hf : fits (tyX2 2) v = true) (hw : w.set a (.inr (2, fs.set 2 v)) = w2) (kk : R G l y cc nL ret d mc ms Q (pc + 3) lv st w2 k n) : R G l y cc nL ret d mc ms Q pc lv (v :: .ref a :: st) w k n := R_putF (C := RX2) (ref := RX2) (T := TX2) (ty0 := tyX2) (N := 4) (ci := 2) (j := 2) rfl inX2 tyX2_ok nmX2 (by decide) (by rw [hy]; exact w_241) rfl rfl (by rw [hy]; rfl) hini hn hf hdg he hl0 (by rw [hw]; exact kk)
theorem g_X8_277 {a : Nat} {fs : List Value} {v : Value} (hy : y.cls = RX8) (hdg : decode cc pc = .ok (.getfield 277, 3)) (he : w[a]? = some (.inr (2, fs))) (hv : fs[2]? = some v) (kk : R G l y cc nL ret d mc ms Q (pc + 3) lv (v :: st) w k n) : R G l y cc nL ret d mc ms Q pc lv (.ref a :: st) w k n := R_get (C := RX2) (ref := RX2) (T := TX2) (N := 4) (ci := 2) (j := 2) rfl inX2 (by decide) (by rw [hy]; exact w_242) rfl hdg he hv kk
theorem g_X2_20 {a : Nat} {fs : List Value} {v : Value} (hy : y.cls = RX2) (hdg : decode cc pc = .ok (.getfield 20, 3)) (he : w[a]? = some (.inr (2, fs))) (hv : fs[3]? = some v) (kk : R G l y cc nL ret d mc ms Q (pc + 3) lv (v :: st) w k n) : R G l y cc nL ret d mc ms Q pc lv (.ref a :: st) w k n := R_get (C := RX2) (ref := RX2) (T := TX2) (N := 4) (ci := 2) (j := 3) rfl inX2 (by decide) (by rw [hy]; exact w_243) rfl hdg he hv kk
theorem p_X2_20 {a : Nat} {fs : List Value} {v : Value} {w2 : VW} (hy : y.cls = RX2) (hini : y.name = "<init>") (hdg : decode cc pc = .ok (.putfield 20, 3)) (he : w[a]? = some (.inr (2, fs))) (hl0 : 3 < fs.length) (hn : narrow (tyX2 3) v = v) (hf : fits (tyX2 3) v = true) (hw : w.set a (.inr (2, fs.set 3 v)) = w2) (kk : R G l y cc nL ret d mc ms Q (pc + 3) lv st w2 k n) : R G l y cc nL ret d mc ms Q pc lv (v :: .ref a :: st) w k n := R_putF (C := RX2) (ref := RX2) (T := TX2) (ty0 := tyX2) (N := 4) (ci := 2) (j := 3) rfl inX2 tyX2_ok nmX2 (by decide) (by rw [hy]; exact w_243) rfl rfl (by rw [hy]; rfl) hini hn hf hdg he hl0 (by rw [hw]; exact kk)
theorem g_X8_274 {a : Nat} {fs : List Value} {v : Value} (hy : y.cls = RX8) (hdg : decode cc pc = .ok (.getfield 274, 3)) (he : w[a]? = some (.inr (2, fs))) (hv : fs[3]? = some v) (kk : R G l y cc nL ret d mc ms Q (pc + 3) lv (v :: st) w k n) : R G l y cc nL ret d mc ms Q pc lv (.ref a :: st) w k n := R_get (C := RX2) (ref := RX2) (T := TX2) (N := 4) (ci := 2) (j := 3) rfl inX2 (by decide) (by rw [hy]; exact w_244) rfl hdg he hv kk
theorem g_X6_9 {a : Nat} {fs : List Value} {v : Value} (hy : y.cls = RX6) (hdg : decode cc pc = .ok (.getfield 9, 3)) (he : w[a]? = some (.inr (6, fs))) (hv : fs[0]? = some v) (kk : R G l y cc nL ret d mc ms Q (pc + 3) lv (v :: st) w k n) : R G l y cc nL ret d mc ms Q pc lv (.ref a :: st) w k n := R_get (C := RX6) (ref := RX6) (T := TX6) (N := 5) (ci := 6) (j := 0) rfl inX6 (by decide) (by rw [hy]; exact w_260) rfl hdg he hv kk
theorem p_X6_9 {a : Nat} {fs : List Value} {v : Value} {w2 : VW} (hy : y.cls = RX6) (hini : y.name = "<init>") (hdg : decode cc pc = .ok (.putfield 9, 3)) (he : w[a]? = some (.inr (6, fs))) (hl0 : 0 < fs.length) (hn : narrow (tyX6 0) v = v) (hf : fits (tyX6 0) v = true) (hw : w.set a (.inr (6, fs.set 0 v)) = w2) (kk : R G l y cc nL ret d mc ms Q (pc + 3) lv st w2 k n) : R G l y cc nL ret d mc ms Q pc lv (v :: .ref a :: st) w k n := R_putF (C := RX6) (ref := RX6) (T := TX6) (ty0 := tyX6) (N := 5) (ci := 6) (j := 0) rfl inX6 tyX6_ok nmX6 (by decide) (by rw [hy]; exact w_260) rfl rfl (by rw [hy]; rfl) hini hn hf hdg he hl0 (by rw [hw]; exact kk)
theorem g_X8_292 {a : Nat} {fs : List Value} {v : Value} (hy : y.cls = RX8) (hdg : decode cc pc = .ok (.getfield 292, 3)) (he : w[a]? = some (.inr (6, fs))) (hv : fs[0]? = some v) (kk : R G l y cc nL ret d mc ms Q (pc + 3) lv (v :: st) w k n) : R G l y cc nL ret d mc ms Q pc lv (.ref a :: st) w k n := R_get (C := RX6) (ref := RX6) (T := TX6) (N := 5) (ci := 6) (j := 0) rfl inX6 (by decide) (by rw [hy]; exact w_261) rfl hdg he hv kk
theorem g_X6_43 {a : Nat} {fs : List Value} {v : Value} (hy : y.cls = RX6) (hdg : decode cc pc = .ok (.getfield 43, 3)) (he : w[a]? = some (.inr (6, fs))) (hv : fs[1]? = some v) (kk : R G l y cc nL ret d mc ms Q (pc + 3) lv (v :: st) w k n) : R G l y cc nL ret d mc ms Q pc lv (.ref a :: st) w k n := R_get (C := RX6) (ref := RX6) (T := TX6) (N := 5) (ci := 6) (j := 1) rfl inX6 (by decide) (by rw [hy]; exact w_262) rfl hdg he hv kk
theorem p_X6_43 {a : Nat} {fs : List Value} {v : Value} {w2 : VW} (hy : y.cls = RX6) (hdg : decode cc pc = .ok (.putfield 43, 3)) (he : w[a]? = some (.inr (6, fs))) (hl0 : 1 < fs.length) (hn : narrow (tyX6 1) v = v) (hf : fits (tyX6 1) v = true) (hw : w.set a (.inr (6, fs.set 1 v)) = w2) (kk : R G l y cc nL ret d mc ms Q (pc + 3) lv st w2 k n) : R G l y cc nL ret d mc ms Q pc lv (v :: .ref a :: st) w k n := R_put (C := RX6) (ref := RX6) (T := TX6) (ty0 := tyX6) (N := 5) (ci := 6) (j := 1) rfl inX6 tyX6_ok nmX6 (by decide) (by rw [hy]; exact w_262) rfl rfl hn hf hdg he hl0 (by rw [hw]; exact kk)
theorem g_X8_291 {a : Nat} {fs : List Value} {v : Value} (hy : y.cls = RX8) (hdg : decode cc pc = .ok (.getfield 291, 3)) (he : w[a]? = some (.inr (6, fs))) (hv : fs[1]? = some v) (kk : R G l y cc nL ret d mc ms Q (pc + 3) lv (v :: st) w k n) : R G l y cc nL ret d mc ms Q pc lv (.ref a :: st) w k n := R_get (C := RX6) (ref := RX6) (T := TX6) (N := 5) (ci := 6) (j := 1) rfl inX6 (by decide) (by rw [hy]; exact w_263) rfl hdg he hv kk
theorem p_X8_291 {a : Nat} {fs : List Value} {v : Value} {w2 : VW} (hy : y.cls = RX8) (hdg : decode cc pc = .ok (.putfield 291, 3)) (he : w[a]? = some (.inr (6, fs))) (hl0 : 1 < fs.length) (hn : narrow (tyX6 1) v = v) (hf : fits (tyX6 1) v = true) (hw : w.set a (.inr (6, fs.set 1 v)) = w2) (kk : R G l y cc nL ret d mc ms Q (pc + 3) lv st w2 k n) : R G l y cc nL ret d mc ms Q pc lv (v :: .ref a :: st) w k n := R_put (C := RX6) (ref := RX6) (T := TX6) (ty0 := tyX6) (N := 5) (ci := 6) (j := 1) rfl inX6 tyX6_ok nmX6 (by decide) (by rw [hy]; exact w_263) rfl rfl hn hf hdg he hl0 (by rw [hw]; exact kk)
theorem g_X6_40 {a : Nat} {fs : List Value} {v : Value} (hy : y.cls = RX6) (hdg : decode cc pc = .ok (.getfield 40, 3)) (he : w[a]? = some (.inr (6, fs))) (hv : fs[2]? = some v) (kk : R G l y cc nL ret d mc ms Q (pc + 3) lv (v :: st) w k n) : R G l y cc nL ret d mc ms Q pc lv (.ref a :: st) w k n := R_get (C := RX6) (ref := RX6) (T := TX6) (N := 5) (ci := 6) (j := 2) rfl inX6 (by decide) (by rw [hy]; exact w_264) rfl hdg he hv kk
theorem p_X6_40 {a : Nat} {fs : List Value} {v : Value} {w2 : VW} (hy : y.cls = RX6) (hdg : decode cc pc = .ok (.putfield 40, 3)) (he : w[a]? = some (.inr (6, fs))) (hl0 : 2 < fs.length) (hn : narrow (tyX6 2) v = v) (hf : fits (tyX6 2) v = true) (hw : w.set a (.inr (6, fs.set 2 v)) = w2) (kk : R G l y cc nL ret d mc ms Q (pc + 3) lv st w2 k n) : R G l y cc nL ret d mc ms Q pc lv (v :: .ref a :: st) w k n := R_put (C := RX6) (ref := RX6) (T := TX6) (ty0 := tyX6) (N := 5) (ci := 6) (j := 2) rfl inX6 tyX6_ok nmX6 (by decide) (by rw [hy]; exact w_264) rfl rfl hn hf hdg he hl0 (by rw [hw]; exact kk)
theorem g_X6_21 {a : Nat} {fs : List Value} {v : Value} (hy : y.cls = RX6) (hdg : decode cc pc = .ok (.getfield 21, 3)) (he : w[a]? = some (.inr (6, fs))) (hv : fs[3]? = some v) (kk : R G l y cc nL ret d mc ms Q (pc + 3) lv (v :: st) w k n) : R G l y cc nL ret d mc ms Q pc lv (.ref a :: st) w k n := R_get (C := RX6) (ref := RX6) (T := TX6) (N := 5) (ci := 6) (j := 3) rfl inX6 (by decide) (by rw [hy]; exact w_265) rfl hdg he hv kk
theorem p_X6_21 {a : Nat} {fs : List Value} {v : Value} {w2 : VW} (hy : y.cls = RX6) (hdg : decode cc pc = .ok (.putfield 21, 3)) (he : w[a]? = some (.inr (6, fs))) (hl0 : 3 < fs.length) (hn : narrow (tyX6 3) v = v) (hf : fits (tyX6 3) v = true) (hw : w.set a (.inr (6, fs.set 3 v)) = w2) (kk : R G l y cc nL ret d mc ms Q (pc + 3) lv st w2 k n) : R G l y cc nL ret d mc ms Q pc lv (v :: .ref a :: st) w k n := R_put (C := RX6) (ref := RX6) (T := TX6) (ty0 := tyX6) (N := 5) (ci := 6) (j := 3) rfl inX6 tyX6_ok nmX6 (by decide) (by rw [hy]; exact w_265) rfl rfl hn hf hdg he hl0 (by rw [hw]; exact kk)
theorem g_X6_24 {a : Nat} {fs : List Value} {v : Value} (hy : y.cls = RX6) (hdg : decode cc pc = .ok (.getfield 24, 3)) (he : w[a]? = some (.inr (6, fs))) (hv : fs[4]? = some v) (kk : R G l y cc nL ret d mc ms Q (pc + 3) lv (v :: st) w k n) : R G l y cc nL ret d mc ms Q pc lv (.ref a :: st) w k n := R_get (C := RX6) (ref := RX6) (T := TX6) (N := 5) (ci := 6) (j := 4) rfl inX6 (by decide) (by rw [hy]; exact w_266) rfl hdg he hv kk
theorem p_X6_24 {a : Nat} {fs : List Value} {v : Value} {w2 : VW} (hy : y.cls = RX6) (hdg : decode cc pc = .ok (.putfield 24, 3)) (he : w[a]? = some (.inr (6, fs))) (hl0 : 4 < fs.length) (hn : narrow (tyX6 4) v = v) (hf : fits (tyX6 4) v = true) (hw : w.set a (.inr (6, fs.set 4 v)) = w2) (kk : R G l y cc nL ret d mc ms Q (pc + 3) lv st w2 k n) : R G l y cc nL ret d mc ms Q pc lv (v :: .ref a :: st) w k n := R_put (C := RX6) (ref := RX6) (T := TX6) (ty0 := tyX6) (N := 5) (ci := 6) (j := 4) rfl inX6 tyX6_ok nmX6 (by decide) (by rw [hy]; exact w_266) rfl rfl hn hf hdg he hl0 (by rw [hw]; exact kk)
theorem g_X4_9 {a : Nat} {fs : List Value} {v : Value} (hy : y.cls = RX4) (hdg : decode cc pc = .ok (.getfield 9, 3)) (he : w[a]? = some (.inr (4, fs))) (hv : fs[0]? = some v) (kk : R G l y cc nL ret d mc ms Q (pc + 3) lv (v :: st) w k n) : R G l y cc nL ret d mc ms Q pc lv (.ref a :: st) w k n := R_get (C := RX4) (ref := RX4) (T := TX4) (N := 7) (ci := 4) (j := 0) rfl inX4 (by decide) (by rw [hy]; exact w_284) rfl hdg he hv kk
theorem p_X4_9 {a : Nat} {fs : List Value} {v : Value} {w2 : VW} (hy : y.cls = RX4) (hini : y.name = "<init>") (hdg : decode cc pc = .ok (.putfield 9, 3)) (he : w[a]? = some (.inr (4, fs))) (hl0 : 0 < fs.length) (hn : narrow (tyX4 0) v = v) (hf : fits (tyX4 0) v = true) (hw : w.set a (.inr (4, fs.set 0 v)) = w2) (kk : R G l y cc nL ret d mc ms Q (pc + 3) lv st w2 k n) : R G l y cc nL ret d mc ms Q pc lv (v :: .ref a :: st) w k n := R_putF (C := RX4) (ref := RX4) (T := TX4) (ty0 := tyX4) (N := 7) (ci := 4) (j := 0) rfl inX4 tyX4_ok nmX4 (by decide) (by rw [hy]; exact w_284) rfl rfl (by rw [hy]; rfl) hini hn hf hdg he hl0 (by rw [hw]; exact kk)
theorem g_X6_65 {a : Nat} {fs : List Value} {v : Value} (hy : y.cls = RX6) (hdg : decode cc pc = .ok (.getfield 65, 3)) (he : w[a]? = some (.inr (4, fs))) (hv : fs[0]? = some v) (kk : R G l y cc nL ret d mc ms Q (pc + 3) lv (v :: st) w k n) : R G l y cc nL ret d mc ms Q pc lv (.ref a :: st) w k n := R_get (C := RX4) (ref := RX4) (T := TX4) (N := 7) (ci := 4) (j := 0) rfl inX4 (by decide) (by rw [hy]; exact w_285) rfl hdg he hv kk
theorem g_X4_15 {a : Nat} {fs : List Value} {v : Value} (hy : y.cls = RX4) (hdg : decode cc pc = .ok (.getfield 15, 3)) (he : w[a]? = some (.inr (4, fs))) (hv : fs[1]? = some v) (kk : R G l y cc nL ret d mc ms Q (pc + 3) lv (v :: st) w k n) : R G l y cc nL ret d mc ms Q pc lv (.ref a :: st) w k n := R_get (C := RX4) (ref := RX4) (T := TX4) (N := 7) (ci := 4) (j := 1) rfl inX4 (by decide) (by rw [hy]; exact w_286) rfl hdg he hv kk
theorem p_X4_15 {a : Nat} {fs : List Value} {v : Value} {w2 : VW} (hy : y.cls = RX4) (hini : y.name = "<init>") (hdg : decode cc pc = .ok (.putfield 15, 3)) (he : w[a]? = some (.inr (4, fs))) (hl0 : 1 < fs.length) (hn : narrow (tyX4 1) v = v) (hf : fits (tyX4 1) v = true) (hw : w.set a (.inr (4, fs.set 1 v)) = w2) (kk : R G l y cc nL ret d mc ms Q (pc + 3) lv st w2 k n) : R G l y cc nL ret d mc ms Q pc lv (v :: .ref a :: st) w k n := R_putF (C := RX4) (ref := RX4) (T := TX4) (ty0 := tyX4) (N := 7) (ci := 4) (j := 1) rfl inX4 tyX4_ok nmX4 (by decide) (by rw [hy]; exact w_286) rfl rfl (by rw [hy]; rfl) hini hn hf hdg he hl0 (by rw [hw]; exact kk)
theorem g_X6_68 {a : Nat} {fs : List Value} {v : Value} (hy : y.cls = RX6) (hdg : decode cc pc = .ok (.getfield 68, 3)) (he : w[a]? = some (.inr (4, fs))) (hv : fs[1]? = some v) (kk : R G l y cc nL ret d mc ms Q (pc + 3) lv (v :: st) w k n) : R G l y cc nL ret d mc ms Q pc lv (.ref a :: st) w k n := R_get (C := RX4) (ref := RX4) (T := TX4) (N := 7) (ci := 4) (j := 1) rfl inX4 (by decide) (by rw [hy]; exact w_287) rfl hdg he hv kk
theorem g_X4_18 {a : Nat} {fs : List Value} {v : Value} (hy : y.cls = RX4) (hdg : decode cc pc = .ok (.getfield 18, 3)) (he : w[a]? = some (.inr (4, fs))) (hv : fs[2]? = some v) (kk : R G l y cc nL ret d mc ms Q (pc + 3) lv (v :: st) w k n) : R G l y cc nL ret d mc ms Q pc lv (.ref a :: st) w k n := R_get (C := RX4) (ref := RX4) (T := TX4) (N := 7) (ci := 4) (j := 2) rfl inX4 (by decide) (by rw [hy]; exact w_288) rfl hdg he hv kk
theorem p_X4_18 {a : Nat} {fs : List Value} {v : Value} {w2 : VW} (hy : y.cls = RX4) (hini : y.name = "<init>") (hdg : decode cc pc = .ok (.putfield 18, 3)) (he : w[a]? = some (.inr (4, fs))) (hl0 : 2 < fs.length) (hn : narrow (tyX4 2) v = v) (hf : fits (tyX4 2) v = true) (hw : w.set a (.inr (4, fs.set 2 v)) = w2) (kk : R G l y cc nL ret d mc ms Q (pc + 3) lv st w2 k n) : R G l y cc nL ret d mc ms Q pc lv (v :: .ref a :: st) w k n := R_putF (C := RX4) (ref := RX4) (T := TX4) (ty0 := tyX4) (N := 7) (ci := 4) (j := 2) rfl inX4 tyX4_ok nmX4 (by decide) (by rw [hy]; exact w_288) rfl rfl (by rw [hy]; rfl) hini hn hf hdg he hl0 (by rw [hw]; exact kk)
theorem g_X6_71 {a : Nat} {fs : List Value} {v : Value} (hy : y.cls = RX6) (hdg : decode cc pc = .ok (.getfield 71, 3)) (he : w[a]? = some (.inr (4, fs))) (hv : fs[2]? = some v) (kk : R G l y cc nL ret d mc ms Q (pc + 3) lv (v :: st) w k n) : R G l y cc nL ret d mc ms Q pc lv (.ref a :: st) w k n := R_get (C := RX4) (ref := RX4) (T := TX4) (N := 7) (ci := 4) (j := 2) rfl inX4 (by decide) (by rw [hy]; exact w_289) rfl hdg he hv kk
theorem g_X4_21 {a : Nat} {fs : List Value} {v : Value} (hy : y.cls = RX4) (hdg : decode cc pc = .ok (.getfield 21, 3)) (he : w[a]? = some (.inr (4, fs))) (hv : fs[3]? = some v) (kk : R G l y cc nL ret d mc ms Q (pc + 3) lv (v :: st) w k n) : R G l y cc nL ret d mc ms Q pc lv (.ref a :: st) w k n := R_get (C := RX4) (ref := RX4) (T := TX4) (N := 7) (ci := 4) (j := 3) rfl inX4 (by decide) (by rw [hy]; exact w_290) rfl hdg he hv kk
theorem p_X4_21 {a : Nat} {fs : List Value} {v : Value} {w2 : VW} (hy : y.cls = RX4) (hini : y.name = "<init>") (hdg : decode cc pc = .ok (.putfield 21, 3)) (he : w[a]? = some (.inr (4, fs))) (hl0 : 3 < fs.length) (hn : narrow (tyX4 3) v = v) (hf : fits (tyX4 3) v = true) (hw : w.set a (.inr (4, fs.set 3 v)) = w2) (kk : R G l y cc nL ret d mc ms Q (pc + 3) lv st w2 k n) : R G l y cc nL ret d mc ms Q pc lv (v :: .ref a :: st) w k n := R_putF (C := RX4) (ref := RX4) (T := TX4) (ty0 := tyX4) (N := 7) (ci := 4) (j := 3) rfl inX4 tyX4_ok nmX4 (by decide) (by rw [hy]; exact w_290) rfl rfl (by rw [hy]; rfl) hini hn hf hdg he hl0 (by rw [hw]; exact kk)
theorem g_X6_74 {a : Nat} {fs : List Value} {v : Value} (hy : y.cls = RX6) (hdg : decode cc pc = .ok (.getfield 74, 3)) (he : w[a]? = some (.inr (4, fs))) (hv : fs[3]? = some v) (kk : R G l y cc nL ret d mc ms Q (pc + 3) lv (v :: st) w k n) : R G l y cc nL ret d mc ms Q pc lv (.ref a :: st) w k n := R_get (C := RX4) (ref := RX4) (T := TX4) (N := 7) (ci := 4) (j := 3) rfl inX4 (by decide) (by rw [hy]; exact w_291) rfl hdg he hv kk
theorem g_X1_103 {a : Nat} {fs : List Value} {v : Value} (hy : y.cls = RX1) (hdg : decode cc pc = .ok (.getfield 103, 3)) (he : w[a]? = some (.inr (4, fs))) (hv : fs[3]? = some v) (kk : R G l y cc nL ret d mc ms Q (pc + 3) lv (v :: st) w k n) : R G l y cc nL ret d mc ms Q pc lv (.ref a :: st) w k n := R_get (C := RX4) (ref := RX4) (T := TX4) (N := 7) (ci := 4) (j := 3) rfl inX4 (by decide) (by rw [hy]; exact w_292) rfl hdg he hv kk
theorem g_X8_300 {a : Nat} {fs : List Value} {v : Value} (hy : y.cls = RX8) (hdg : decode cc pc = .ok (.getfield 300, 3)) (he : w[a]? = some (.inr (4, fs))) (hv : fs[3]? = some v) (kk : R G l y cc nL ret d mc ms Q (pc + 3) lv (v :: st) w k n) : R G l y cc nL ret d mc ms Q pc lv (.ref a :: st) w k n := R_get (C := RX4) (ref := RX4) (T := TX4) (N := 7) (ci := 4) (j := 3) rfl inX4 (by decide) (by rw [hy]; exact w_293) rfl hdg he hv kk
theorem g_X4_25 {a : Nat} {fs : List Value} {v : Value} (hy : y.cls = RX4) (hdg : decode cc pc = .ok (.getfield 25, 3)) (he : w[a]? = some (.inr (4, fs))) (hv : fs[4]? = some v) (kk : R G l y cc nL ret d mc ms Q (pc + 3) lv (v :: st) w k n) : R G l y cc nL ret d mc ms Q pc lv (.ref a :: st) w k n := R_get (C := RX4) (ref := RX4) (T := TX4) (N := 7) (ci := 4) (j := 4) rfl inX4 (by decide) (by rw [hy]; exact w_294) rfl hdg he hv kk
theorem p_X4_25 {a : Nat} {fs : List Value} {v : Value} {w2 : VW} (hy : y.cls = RX4) (hini : y.name = "<init>") (hdg : decode cc pc = .ok (.putfield 25, 3)) (he : w[a]? = some (.inr (4, fs))) (hl0 : 4 < fs.length) (hn : narrow (tyX4 4) v = v) (hf : fits (tyX4 4) v = true) (hw : w.set a (.inr (4, fs.set 4 v)) = w2) (kk : R G l y cc nL ret d mc ms Q (pc + 3) lv st w2 k n) : R G l y cc nL ret d mc ms Q pc lv (v :: .ref a :: st) w k n := R_putF (C := RX4) (ref := RX4) (T := TX4) (ty0 := tyX4) (N := 7) (ci := 4) (j := 4) rfl inX4 tyX4_ok nmX4 (by decide) (by rw [hy]; exact w_294) rfl rfl (by rw [hy]; rfl) hini hn hf hdg he hl0 (by rw [hw]; exact kk)
theorem g_X6_78 {a : Nat} {fs : List Value} {v : Value} (hy : y.cls = RX6) (hdg : decode cc pc = .ok (.getfield 78, 3)) (he : w[a]? = some (.inr (4, fs))) (hv : fs[4]? = some v) (kk : R G l y cc nL ret d mc ms Q (pc + 3) lv (v :: st) w k n) : R G l y cc nL ret d mc ms Q pc lv (.ref a :: st) w k n := R_get (C := RX4) (ref := RX4) (T := TX4) (N := 7) (ci := 4) (j := 4) rfl inX4 (by decide) (by rw [hy]; exact w_295) rfl hdg he hv kk
theorem g_X1_117 {a : Nat} {fs : List Value} {v : Value} (hy : y.cls = RX1) (hdg : decode cc pc = .ok (.getfield 117, 3)) (he : w[a]? = some (.inr (4, fs))) (hv : fs[4]? = some v) (kk : R G l y cc nL ret d mc ms Q (pc + 3) lv (v :: st) w k n) : R G l y cc nL ret d mc ms Q pc lv (.ref a :: st) w k n := R_get (C := RX4) (ref := RX4) (T := TX4) (N := 7) (ci := 4) (j := 4) rfl inX4 (by decide) (by rw [hy]; exact w_296) rfl hdg he hv kk
theorem g_X8_307 {a : Nat} {fs : List Value} {v : Value} (hy : y.cls = RX8) (hdg : decode cc pc = .ok (.getfield 307, 3)) (he : w[a]? = some (.inr (4, fs))) (hv : fs[4]? = some v) (kk : R G l y cc nL ret d mc ms Q (pc + 3) lv (v :: st) w k n) : R G l y cc nL ret d mc ms Q pc lv (.ref a :: st) w k n := R_get (C := RX4) (ref := RX4) (T := TX4) (N := 7) (ci := 4) (j := 4) rfl inX4 (by decide) (by rw [hy]; exact w_297) rfl hdg he hv kk
theorem g_X4_28 {a : Nat} {fs : List Value} {v : Value} (hy : y.cls = RX4) (hdg : decode cc pc = .ok (.getfield 28, 3)) (he : w[a]? = some (.inr (4, fs))) (hv : fs[5]? = some v) (kk : R G l y cc nL ret d mc ms Q (pc + 3) lv (v :: st) w k n) : R G l y cc nL ret d mc ms Q pc lv (.ref a :: st) w k n := R_get (C := RX4) (ref := RX4) (T := TX4) (N := 7) (ci := 4) (j := 5) rfl inX4 (by decide) (by rw [hy]; exact w_298) rfl hdg he hv kk
theorem p_X4_28 {a : Nat} {fs : List Value} {v : Value} {w2 : VW} (hy : y.cls = RX4) (hini : y.name = "<init>") (hdg : decode cc pc = .ok (.putfield 28, 3)) (he : w[a]? = some (.inr (4, fs))) (hl0 : 5 < fs.length) (hn : narrow (tyX4 5) v = v) (hf : fits (tyX4 5) v = true) (hw : w.set a (.inr (4, fs.set 5 v)) = w2) (kk : R G l y cc nL ret d mc ms Q (pc + 3) lv st w2 k n) : R G l y cc nL ret d mc ms Q pc lv (v :: .ref a :: st) w k n := R_putF (C := RX4) (ref := RX4) (T := TX4) (ty0 := tyX4) (N := 7) (ci := 4) (j := 5) rfl inX4 tyX4_ok nmX4 (by decide) (by rw [hy]; exact w_298) rfl rfl (by rw [hy]; rfl) hini hn hf hdg he hl0 (by rw [hw]; exact kk)
theorem g_X6_81 {a : Nat} {fs : List Value} {v : Value} (hy : y.cls = RX6) (hdg : decode cc pc = .ok (.getfield 81, 3)) (he : w[a]? = some (.inr (4, fs))) (hv : fs[5]? = some v) (kk : R G l y cc nL ret d mc ms Q (pc + 3) lv (v :: st) w k n) : R G l y cc nL ret d mc ms Q pc lv (.ref a :: st) w k n := R_get (C := RX4) (ref := RX4) (T := TX4) (N := 7) (ci := 4) (j := 5) rfl inX4 (by decide) (by rw [hy]; exact w_299) rfl hdg he hv kk
theorem g_X1_123 {a : Nat} {fs : List Value} {v : Value} (hy : y.cls = RX1) (hdg : decode cc pc = .ok (.getfield 123, 3)) (he : w[a]? = some (.inr (4, fs))) (hv : fs[5]? = some v) (kk : R G l y cc nL ret d mc ms Q (pc + 3) lv (v :: st) w k n) : R G l y cc nL ret d mc ms Q pc lv (.ref a :: st) w k n := R_get (C := RX4) (ref := RX4) (T := TX4) (N := 7) (ci := 4) (j := 5) rfl inX4 (by decide) (by rw [hy]; exact w_300) rfl hdg he hv kk
theorem g_X8_310 {a : Nat} {fs : List Value} {v : Value} (hy : y.cls = RX8) (hdg : decode cc pc = .ok (.getfield 310, 3)) (he : w[a]? = some (.inr (4, fs))) (hv : fs[5]? = some v) (kk : R G l y cc nL ret d mc ms Q (pc + 3) lv (v :: st) w k n) : R G l y cc nL ret d mc ms Q pc lv (.ref a :: st) w k n := R_get (C := RX4) (ref := RX4) (T := TX4) (N := 7) (ci := 4) (j := 5) rfl inX4 (by decide) (by rw [hy]; exact w_301) rfl hdg he hv kk
theorem g_X6_15 {a : Nat} {fs : List Value} {v : Value} (hy : y.cls = RX6) (hdg : decode cc pc = .ok (.getfield 15, 3)) (he : w[a]? = some (.inr (4, fs))) (hv : fs[6]? = some v) (kk : R G l y cc nL ret d mc ms Q (pc + 3) lv (v :: st) w k n) : R G l y cc nL ret d mc ms Q pc lv (.ref a :: st) w k n := R_get (C := RX4) (ref := RX4) (T := TX4) (N := 7) (ci := 4) (j := 6) rfl inX4 (by decide) (by rw [hy]; exact w_302) rfl hdg he hv kk
theorem p_X6_15 {a : Nat} {fs : List Value} {v : Value} {w2 : VW} (hy : y.cls = RX6) (hdg : decode cc pc = .ok (.putfield 15, 3)) (he : w[a]? = some (.inr (4, fs))) (hl0 : 6 < fs.length) (hn : narrow (tyX4 6) v = v) (hf : fits (tyX4 6) v = true) (hw : w.set a (.inr (4, fs.set 6 v)) = w2) (kk : R G l y cc nL ret d mc ms Q (pc + 3) lv st w2 k n) : R G l y cc nL ret d mc ms Q pc lv (v :: .ref a :: st) w k n := R_put (C := RX4) (ref := RX4) (T := TX4) (ty0 := tyX4) (N := 7) (ci := 4) (j := 6) rfl inX4 tyX4_ok nmX4 (by decide) (by rw [hy]; exact w_302) rfl rfl hn hf hdg he hl0 (by rw [hw]; exact kk)
theorem g_X1_97 {a : Nat} {fs : List Value} {v : Value} (hy : y.cls = RX1) (hdg : decode cc pc = .ok (.getfield 97, 3)) (he : w[a]? = some (.inr (4, fs))) (hv : fs[6]? = some v) (kk : R G l y cc nL ret d mc ms Q (pc + 3) lv (v :: st) w k n) : R G l y cc nL ret d mc ms Q pc lv (.ref a :: st) w k n := R_get (C := RX4) (ref := RX4) (T := TX4) (N := 7) (ci := 4) (j := 6) rfl inX4 (by decide) (by rw [hy]; exact w_303) rfl hdg he hv kk
theorem p_X1_97 {a : Nat} {fs : List Value} {v : Value} {w2 : VW} (hy : y.cls = RX1) (hdg : decode cc pc = .ok (.putfield 97, 3)) (he : w[a]? = some (.inr (4, fs))) (hl0 : 6 < fs.length) (hn : narrow (tyX4 6) v = v) (hf : fits (tyX4 6) v = true) (hw : w.set a (.inr (4, fs.set 6 v)) = w2) (kk : R G l y cc nL ret d mc ms Q (pc + 3) lv st w2 k n) : R G l y cc nL ret d mc ms Q pc lv (v :: .ref a :: st) w k n := R_put (C := RX4) (ref := RX4) (T := TX4) (ty0 := tyX4) (N := 7) (ci := 4) (j := 6) rfl inX4 tyX4_ok nmX4 (by decide) (by rw [hy]; exact w_303) rfl rfl hn hf hdg he hl0 (by rw [hw]; exact kk)
theorem g_X8_299 {a : Nat} {fs : List Value} {v : Value} (hy : y.cls = RX8) (hdg : decode cc pc = .ok (.getfield 299, 3)) (he : w[a]? = some (.inr (4, fs))) (hv : fs[6]? = some v) (kk : R G l y cc nL ret d mc ms Q (pc + 3) lv (v :: st) w k n) : R G l y cc nL ret d mc ms Q pc lv (.ref a :: st) w k n := R_get (C := RX4) (ref := RX4) (T := TX4) (N := 7) (ci := 4) (j := 6) rfl inX4 (by decide) (by rw [hy]; exact w_304) rfl hdg he hv kk
theorem p_X8_299 {a : Nat} {fs : List Value} {v : Value} {w2 : VW} (hy : y.cls = RX8) (hdg : decode cc pc = .ok (.putfield 299, 3)) (he : w[a]? = some (.inr (4, fs))) (hl0 : 6 < fs.length) (hn : narrow (tyX4 6) v = v) (hf : fits (tyX4 6) v = true) (hw : w.set a (.inr (4, fs.set 6 v)) = w2) (kk : R G l y cc nL ret d mc ms Q (pc + 3) lv st w2 k n) : R G l y cc nL ret d mc ms Q pc lv (v :: .ref a :: st) w k n := R_put (C := RX4) (ref := RX4) (T := TX4) (ty0 := tyX4) (N := 7) (ci := 4) (j := 6) rfl inX4 tyX4_ok nmX4 (by decide) (by rw [hy]; exact w_304) rfl rfl hn hf hdg he hl0 (by rw [hw]; exact kk)
theorem g_X8_10 {a : Nat} {fs : List Value} {v : Value} (hy : y.cls = RX8) (hdg : decode cc pc = .ok (.getfield 10, 3)) (he : w[a]? = some (.inr (8, fs))) (hv : fs[0]? = some v) (kk : R G l y cc nL ret d mc ms Q (pc + 3) lv (v :: st) w k n) : R G l y cc nL ret d mc ms Q pc lv (.ref a :: st) w k n := R_get (C := RX8) (ref := RX8) (T := TX8) (N := 10) (ci := 8) (j := 0) rfl inX8 (by decide) (by rw [hy]; exact w_320) rfl hdg he hv kk
theorem p_X8_10 {a : Nat} {fs : List Value} {v : Value} {w2 : VW} (hy : y.cls = RX8) (hini : y.name = "<init>") (hdg : decode cc pc = .ok (.putfield 10, 3)) (he : w[a]? = some (.inr (8, fs))) (hl0 : 0 < fs.length) (hn : narrow (tyX8 0) v = v) (hf : fits (tyX8 0) v = true) (hw : w.set a (.inr (8, fs.set 0 v)) = w2) (kk : R G l y cc nL ret d mc ms Q (pc + 3) lv st w2 k n) : R G l y cc nL ret d mc ms Q pc lv (v :: .ref a :: st) w k n := R_putF (C := RX8) (ref := RX8) (T := TX8) (ty0 := tyX8) (N := 10) (ci := 8) (j := 0) rfl inX8 tyX8_ok nmX8 (by decide) (by rw [hy]; exact w_320) rfl rfl (by rw [hy]; rfl) hini hn hf hdg he hl0 (by rw [hw]; exact kk)
theorem g_X8_21 {a : Nat} {fs : List Value} {v : Value} (hy : y.cls = RX8) (hdg : decode cc pc = .ok (.getfield 21, 3)) (he : w[a]? = some (.inr (8, fs))) (hv : fs[1]? = some v) (kk : R G l y cc nL ret d mc ms Q (pc + 3) lv (v :: st) w k n) : R G l y cc nL ret d mc ms Q pc lv (.ref a :: st) w k n := R_get (C := RX8) (ref := RX8) (T := TX8) (N := 10) (ci := 8) (j := 1) rfl inX8 (by decide) (by rw [hy]; exact w_321) rfl hdg he hv kk
theorem p_X8_21 {a : Nat} {fs : List Value} {v : Value} {w2 : VW} (hy : y.cls = RX8) (hini : y.name = "<init>") (hdg : decode cc pc = .ok (.putfield 21, 3)) (he : w[a]? = some (.inr (8, fs))) (hl0 : 1 < fs.length) (hn : narrow (tyX8 1) v = v) (hf : fits (tyX8 1) v = true) (hw : w.set a (.inr (8, fs.set 1 v)) = w2) (kk : R G l y cc nL ret d mc ms Q (pc + 3) lv st w2 k n) : R G l y cc nL ret d mc ms Q pc lv (v :: .ref a :: st) w k n := R_putF (C := RX8) (ref := RX8) (T := TX8) (ty0 := tyX8) (N := 10) (ci := 8) (j := 1) rfl inX8 tyX8_ok nmX8 (by decide) (by rw [hy]; exact w_321) rfl rfl (by rw [hy]; rfl) hini hn hf hdg he hl0 (by rw [hw]; exact kk)
theorem g_X8_28 {a : Nat} {fs : List Value} {v : Value} (hy : y.cls = RX8) (hdg : decode cc pc = .ok (.getfield 28, 3)) (he : w[a]? = some (.inr (8, fs))) (hv : fs[2]? = some v) (kk : R G l y cc nL ret d mc ms Q (pc + 3) lv (v :: st) w k n) : R G l y cc nL ret d mc ms Q pc lv (.ref a :: st) w k n := R_get (C := RX8) (ref := RX8) (T := TX8) (N := 10) (ci := 8) (j := 2) rfl inX8 (by decide) (by rw [hy]; exact w_322) rfl hdg he hv kk
theorem p_X8_28 {a : Nat} {fs : List Value} {v : Value} {w2 : VW} (hy : y.cls = RX8) (hini : y.name = "<init>") (hdg : decode cc pc = .ok (.putfield 28, 3)) (he : w[a]? = some (.inr (8, fs))) (hl0 : 2 < fs.length) (hn : narrow (tyX8 2) v = v) (hf : fits (tyX8 2) v = true) (hw : w.set a (.inr (8, fs.set 2 v)) = w2) (kk : R G l y cc nL ret d mc ms Q (pc + 3) lv st w2 k n) : R G l y cc nL ret d mc ms Q pc lv (v :: .ref a :: st) w k n := R_putF (C := RX8) (ref := RX8) (T := TX8) (ty0 := tyX8) (N := 10) (ci := 8) (j := 2) rfl inX8 tyX8_ok nmX8 (by decide) (by rw [hy]; exact w_322) rfl rfl (by rw [hy]; rfl) hini hn hf hdg he hl0 (by rw [hw]; exact kk)
theorem g_X8_37 {a : Nat} {fs : List Value} {v : Value} (hy : y.cls = RX8) (hdg : decode cc pc = .ok (.getfield 37, 3)) (he : w[a]? = some (.inr (8, fs))) (hv : fs[3]? = some v) (kk : R G l y cc nL ret d mc ms Q (pc + 3) lv (v :: st) w k n) : R G l y cc nL ret d mc ms Q pc lv (.ref a :: st) w k n := R_get (C := RX8) (ref := RX8) (T := TX8) (N := 10) (ci := 8) (j := 3) rfl inX8 (by decide) (by rw [hy]; exact w_323) rfl hdg he hv kk
theorem p_X8_37 {a : Nat} {fs : List Value} {v : Value} {w2 : VW} (hy : y.cls = RX8) (hini : y.name = "<init>") (hdg : decode cc pc = .ok (.putfield 37, 3)) (he : w[a]? = some (.inr (8, fs))) (hl0 : 3 < fs.length) (hn : narrow (tyX8 3) v = v) (hf : fits (tyX8 3) v = true) (hw : w.set a (.inr (8, fs.set 3 v)) = w2) (kk : R G l y cc nL ret d mc ms Q (pc + 3) lv st w2 k n) : R G l y cc nL ret d mc ms Q pc lv (v :: .ref a :: st) w k n := R_putF (C := RX8) (ref := RX8) (T := TX8) (ty0 := tyX8) (N := 10) (ci := 8) (j := 3) rfl inX8 tyX8_ok nmX8 (by decide) (by rw [hy]; exact w_323) rfl rfl (by rw [hy]; rfl) hini hn hf hdg he hl0 (by rw [hw]; exact kk)
theorem g_X8_44 {a : Nat} {fs : List Value} {v : Value} (hy : y.cls = RX8) (hdg : decode cc pc = .ok (.getfield 44, 3)) (he : w[a]? = some (.inr (8, fs))) (hv : fs[4]? = some v) (kk : R G l y cc nL ret d mc ms Q (pc + 3) lv (v :: st) w k n) : R G l y cc nL ret d mc ms Q pc lv (.ref a :: st) w k n := R_get (C := RX8) (ref := RX8) (T := TX8) (N := 10) (ci := 8) (j := 4) rfl inX8 (by decide) (by rw [hy]; exact w_324) rfl hdg he hv kk
theorem p_X8_44 {a : Nat} {fs : List Value} {v : Value} {w2 : VW} (hy : y.cls = RX8) (hini : y.name = "<init>") (hdg : decode cc pc = .ok (.putfield 44, 3)) (he : w[a]? = some (.inr (8, fs))) (hl0 : 4 < fs.length) (hn : narrow (tyX8 4) v = v) (hf : fits (tyX8 4) v = true) (hw : w.set a (.inr (8, fs.set 4 v)) = w2) (kk : R G l y cc nL ret d mc ms Q (pc + 3) lv st w2 k n) : R G l y cc nL ret d mc ms Q pc lv (v :: .ref a :: st) w k n := R_putF (C := RX8) (ref := RX8) (T := TX8) (ty0 := tyX8) (N := 10) (ci := 8) (j := 4) rfl inX8 tyX8_ok nmX8 (by decide) (by rw [hy]; exact w_324) rfl rfl (by rw [hy]; rfl) hini hn hf hdg he hl0 (by rw [hw]; exact kk)
theorem g_X8_51 {a : Nat} {fs : List Value} {v : Value} (hy : y.cls = RX8) (hdg : decode cc pc = .ok (.getfield 51, 3)) (he : w[a]? = some (.inr (8, fs))) (hv : fs[5]? = some v) (kk : R G l y cc nL ret d mc ms Q (pc + 3) lv (v :: st) w k n) : R G l y cc nL ret d mc ms Q pc lv (.ref a :: st) w k n := R_get (C := RX8) (ref := RX8) (T := TX8) (N := 10) (ci := 8) (j := 5) rfl inX8 (by decide) (by rw [hy]; exact w_325) rfl hdg he hv kk
theorem p_X8_51 {a : Nat} {fs : List Value} {v : Value} {w2 : VW} (hy : y.cls = RX8) (hini : y.name = "<init>") (hdg : decode cc pc = .ok (.putfield 51, 3)) (he : w[a]? = some (.inr (8, fs))) (hl0 : 5 < fs.length) (hn : narrow (tyX8 5) v = v) (hf : fits (tyX8 5) v = true) (hw : w.set a (.inr (8, fs.set 5 v)) = w2) (kk : R G l y cc nL ret d mc ms Q (pc + 3) lv st w2 k n) : R G l y cc nL ret d mc ms Q pc lv (v :: .ref a :: st) w k n := R_putF (C := RX8) (ref := RX8) (T := TX8) (ty0 := tyX8) (N := 10) (ci := 8) (j := 5) rfl inX8 tyX8_ok nmX8 (by decide) (by rw [hy]; exact w_325) rfl rfl (by rw [hy]; rfl) hini hn hf hdg he hl0 (by rw [hw]; exact kk)
theorem g_X8_58 {a : Nat} {fs : List Value} {v : Value} (hy : y.cls = RX8) (hdg : decode cc pc = .ok (.getfield 58, 3)) (he : w[a]? = some (.inr (8, fs))) (hv : fs[6]? = some v) (kk : R G l y cc nL ret d mc ms Q (pc + 3) lv (v :: st) w k n) : R G l y cc nL ret d mc ms Q pc lv (.ref a :: st) w k n := R_get (C := RX8) (ref := RX8) (T := TX8) (N := 10) (ci := 8) (j := 6) rfl inX8 (by decide) (by rw [hy]; exact w_326) rfl hdg he hv kk
theorem p_X8_58 {a : Nat} {fs : List Value} {v : Value} {w2 : VW} (hy : y.cls = RX8) (hini : y.name = "<init>") (hdg : decode cc pc = .ok (.putfield 58, 3)) (he : w[a]? = some (.inr (8, fs))) (hl0 : 6 < fs.length) (hn : narrow (tyX8 6) v = v) (hf : fits (tyX8 6) v = true) (hw : w.set a (.inr (8, fs.set 6 v)) = w2) (kk : R G l y cc nL ret d mc ms Q (pc + 3) lv st w2 k n) : R G l y cc nL ret d mc ms Q pc lv (v :: .ref a :: st) w k n := R_putF (C := RX8) (ref := RX8) (T := TX8) (ty0 := tyX8) (N := 10) (ci := 8) (j := 6) rfl inX8 tyX8_ok nmX8 (by decide) (by rw [hy]; exact w_326) rfl rfl (by rw [hy]; rfl) hini hn hf hdg he hl0 (by rw [hw]; exact kk)
theorem g_X8_62 {a : Nat} {fs : List Value} {v : Value} (hy : y.cls = RX8) (hdg : decode cc pc = .ok (.getfield 62, 3)) (he : w[a]? = some (.inr (8, fs))) (hv : fs[7]? = some v) (kk : R G l y cc nL ret d mc ms Q (pc + 3) lv (v :: st) w k n) : R G l y cc nL ret d mc ms Q pc lv (.ref a :: st) w k n := R_get (C := RX8) (ref := RX8) (T := TX8) (N := 10) (ci := 8) (j := 7) rfl inX8 (by decide) (by rw [hy]; exact w_327) rfl hdg he hv kk
theorem p_X8_62 {a : Nat} {fs : List Value} {v : Value} {w2 : VW} (hy : y.cls = RX8) (hdg : decode cc pc = .ok (.putfield 62, 3)) (he : w[a]? = some (.inr (8, fs))) (hl0 : 7 < fs.length) (hn : narrow (tyX8 7) v = v) (hf : fits (tyX8 7) v = true) (hw : w.set a (.inr (8, fs.set 7 v)) = w2) (kk : R G l y cc nL ret d mc ms Q (pc + 3) lv st w2 k n) : R G l y cc nL ret d mc ms Q pc lv (v :: .ref a :: st) w k n := R_put (C := RX8) (ref := RX8) (T := TX8) (ty0 := tyX8) (N := 10) (ci := 8) (j := 7) rfl inX8 tyX8_ok nmX8 (by decide) (by rw [hy]; exact w_327) rfl rfl hn hf hdg he hl0 (by rw [hw]; exact kk)
theorem g_X8_65 {a : Nat} {fs : List Value} {v : Value} (hy : y.cls = RX8) (hdg : decode cc pc = .ok (.getfield 65, 3)) (he : w[a]? = some (.inr (8, fs))) (hv : fs[8]? = some v) (kk : R G l y cc nL ret d mc ms Q (pc + 3) lv (v :: st) w k n) : R G l y cc nL ret d mc ms Q pc lv (.ref a :: st) w k n := R_get (C := RX8) (ref := RX8) (T := TX8) (N := 10) (ci := 8) (j := 8) rfl inX8 (by decide) (by rw [hy]; exact w_328) rfl hdg he hv kk
theorem p_X8_65 {a : Nat} {fs : List Value} {v : Value} {w2 : VW} (hy : y.cls = RX8) (hdg : decode cc pc = .ok (.putfield 65, 3)) (he : w[a]? = some (.inr (8, fs))) (hl0 : 8 < fs.length) (hn : narrow (tyX8 8) v = v) (hf : fits (tyX8 8) v = true) (hw : w.set a (.inr (8, fs.set 8 v)) = w2) (kk : R G l y cc nL ret d mc ms Q (pc + 3) lv st w2 k n) : R G l y cc nL ret d mc ms Q pc lv (v :: .ref a :: st) w k n := R_put (C := RX8) (ref := RX8) (T := TX8) (ty0 := tyX8) (N := 10) (ci := 8) (j := 8) rfl inX8 tyX8_ok nmX8 (by decide) (by rw [hy]; exact w_328) rfl rfl hn hf hdg he hl0 (by rw [hw]; exact kk)
theorem g_X8_68 {a : Nat} {fs : List Value} {v : Value} (hy : y.cls = RX8) (hdg : decode cc pc = .ok (.getfield 68, 3)) (he : w[a]? = some (.inr (8, fs))) (hv : fs[9]? = some v) (kk : R G l y cc nL ret d mc ms Q (pc + 3) lv (v :: st) w k n) : R G l y cc nL ret d mc ms Q pc lv (.ref a :: st) w k n := R_get (C := RX8) (ref := RX8) (T := TX8) (N := 10) (ci := 8) (j := 9) rfl inX8 (by decide) (by rw [hy]; exact w_329) rfl hdg he hv kk
theorem p_X8_68 {a : Nat} {fs : List Value} {v : Value} {w2 : VW} (hy : y.cls = RX8) (hdg : decode cc pc = .ok (.putfield 68, 3)) (he : w[a]? = some (.inr (8, fs))) (hl0 : 9 < fs.length) (hn : narrow (tyX8 9) v = v) (hf : fits (tyX8 9) v = true) (hw : w.set a (.inr (8, fs.set 9 v)) = w2) (kk : R G l y cc nL ret d mc ms Q (pc + 3) lv st w2 k n) : R G l y cc nL ret d mc ms Q pc lv (v :: .ref a :: st) w k n := R_put (C := RX8) (ref := RX8) (T := TX8) (ty0 := tyX8) (N := 10) (ci := 8) (j := 9) rfl inX8 tyX8_ok nmX8 (by decide) (by rw [hy]; exact w_329) rfl rfl hn hf hdg he hl0 (by rw [hw]; exact kk)
theorem g_X9_117 {a : Nat} {fs : List Value} {v : Value} (hy : y.cls = RX9) (hdg : decode cc pc = .ok (.getfield 117, 3)) (he : w[a]? = some (.inr (9, fs))) (hv : fs[0]? = some v) (kk : R G l y cc nL ret d mc ms Q (pc + 3) lv (v :: st) w k n) : R G l y cc nL ret d mc ms Q pc lv (.ref a :: st) w k n := R_get (C := RX9) (ref := RX9) (T := TX9) (N := 49) (ci := 9) (j := 0) rfl inX9 (by decide) (by rw [hy]; exact w_834) rfl hdg he hv kk
theorem p_X9_117 {a : Nat} {fs : List Value} {v : Value} {w2 : VW} (hy : y.cls = RX9) (hdg : decode cc pc = .ok (.putfield 117, 3)) (he : w[a]? = some (.inr (9, fs))) (hl0 : 0 < fs.length) (hn : narrow (tyX9 0) v = v) (hf : fits (tyX9 0) v = true) (hw : w.set a (.inr (9, fs.set 0 v)) = w2) (kk : R G l y cc nL ret d mc ms Q (pc + 3) lv st w2 k n) : R G l y cc nL ret d mc ms Q pc lv (v :: .ref a :: st) w k n := R_put (C := RX9) (ref := RX9) (T := TX9) (ty0 := tyX9) (N := 49) (ci := 9) (j := 0) rfl inX9 tyX9_ok nmX9 (by decide) (by rw [hy]; exact w_834) rfl rfl hn hf hdg he hl0 (by rw [hw]; exact kk)
theorem g_X9_7 {a : Nat} {fs : List Value} {v : Value} (hy : y.cls = RX9) (hdg : decode cc pc = .ok (.getfield 7, 3)) (he : w[a]? = some (.inr (9, fs))) (hv : fs[1]? = some v) (kk : R G l y cc nL ret d mc ms Q (pc + 3) lv (v :: st) w k n) : R G l y cc nL ret d mc ms Q pc lv (.ref a :: st) w k n := R_get (C := RX9) (ref := RX9) (T := TX9) (N := 49) (ci := 9) (j := 1) rfl inX9 (by decide) (by rw [hy]; exact w_835) rfl hdg he hv kk
theorem p_X9_7 {a : Nat} {fs : List Value} {v : Value} {w2 : VW} (hy : y.cls = RX9) (hini : y.name = "<init>") (hdg : decode cc pc = .ok (.putfield 7, 3)) (he : w[a]? = some (.inr (9, fs))) (hl0 : 1 < fs.length) (hn : narrow (tyX9 1) v = v) (hf : fits (tyX9 1) v = true) (hw : w.set a (.inr (9, fs.set 1 v)) = w2) (kk : R G l y cc nL ret d mc ms Q (pc + 3) lv st w2 k n) : R G l y cc nL ret d mc ms Q pc lv (v :: .ref a :: st) w k n := R_putF (C := RX9) (ref := RX9) (T := TX9) (ty0 := tyX9) (N := 49) (ci := 9) (j := 1) rfl inX9 tyX9_ok nmX9 (by decide) (by rw [hy]; exact w_835) rfl rfl (by rw [hy]; rfl) hini hn hf hdg he hl0 (by rw [hw]; exact kk)
theorem g_X9_13 {a : Nat} {fs : List Value} {v : Value} (hy : y.cls = RX9) (hdg : decode cc pc = .ok (.getfield 13, 3)) (he : w[a]? = some (.inr (9, fs))) (hv : fs[2]? = some v) (kk : R G l y cc nL ret d mc ms Q (pc + 3) lv (v :: st) w k n) : R G l y cc nL ret d mc ms Q pc lv (.ref a :: st) w k n := R_get (C := RX9) (ref := RX9) (T := TX9) (N := 49) (ci := 9) (j := 2) rfl inX9 (by decide) (by rw [hy]; exact w_836) rfl hdg he hv kk
theorem p_X9_13 {a : Nat} {fs : List Value} {v : Value} {w2 : VW} (hy : y.cls = RX9) (hini : y.name = "<init>") (hdg : decode cc pc = .ok (.putfield 13, 3)) (he : w[a]? = some (.inr (9, fs))) (hl0 : 2 < fs.length) (hn : narrow (tyX9 2) v = v) (hf : fits (tyX9 2) v = true) (hw : w.set a (.inr (9, fs.set 2 v)) = w2) (kk : R G l y cc nL ret d mc ms Q (pc + 3) lv st w2 k n) : R G l y cc nL ret d mc ms Q pc lv (v :: .ref a :: st) w k n := R_putF (C := RX9) (ref := RX9) (T := TX9) (ty0 := tyX9) (N := 49) (ci := 9) (j := 2) rfl inX9 tyX9_ok nmX9 (by decide) (by rw [hy]; exact w_836) rfl rfl (by rw [hy]; rfl) hini hn hf hdg he hl0 (by rw [hw]; exact kk)
theorem g_X9_16 {a : Nat} {fs : List Value} {v : Value} (hy : y.cls = RX9) (hdg : decode cc pc = .ok (.getfield 16, 3)) (he : w[a]? = some (.inr (9, fs))) (hv : fs[3]? = some v) (kk : R G l y cc nL ret d mc ms Q (pc + 3) lv (v :: st) w k n) : R G l y cc nL ret d mc ms Q pc lv (.ref a :: st) w k n := R_get (C := RX9) (ref := RX9) (T := TX9) (N := 49) (ci := 9) (j := 3) rfl inX9 (by decide) (by rw [hy]; exact w_837) rfl hdg he hv kk
theorem p_X9_16 {a : Nat} {fs : List Value} {v : Value} {w2 : VW} (hy : y.cls = RX9) (hini : y.name = "<init>") (hdg : decode cc pc = .ok (.putfield 16, 3)) (he : w[a]? = some (.inr (9, fs))) (hl0 : 3 < fs.length) (hn : narrow (tyX9 3) v = v) (hf : fits (tyX9 3) v = true) (hw : w.set a (.inr (9, fs.set 3 v)) = w2) (kk : R G l y cc nL ret d mc ms Q (pc + 3) lv st w2 k n) : R G l y cc nL ret d mc ms Q pc lv (v :: .ref a :: st) w k n := R_putF (C := RX9) (ref := RX9) (T := TX9) (ty0 := tyX9) (N := 49) (ci := 9) (j := 3) rfl inX9 tyX9_ok nmX9 (by decide) (by rw [hy]; exact w_837) rfl rfl (by rw [hy]; rfl) hini hn hf hdg he hl0 (by rw [hw]; exact kk)
theorem g_X9_19 {a : Nat} {fs : List Value} {v : Value} (hy : y.cls = RX9) (hdg : decode cc pc = .ok (.getfield 19, 3)) (he : w[a]? = some (.inr (9, fs))) (hv : fs[4]? = some v) (kk : R G l y cc nL ret d mc ms Q (pc + 3) lv (v :: st) w k n) : R G l y cc nL ret d mc ms Q pc lv (.ref a :: st) w k n := R_get (C := RX9) (ref := RX9) (T := TX9) (N := 49) (ci := 9) (j := 4) rfl inX9 (by decide) (by rw [hy]; exact w_838) rfl hdg he hv kk
theorem p_X9_19 {a : Nat} {fs : List Value} {v : Value} {w2 : VW} (hy : y.cls = RX9) (hini : y.name = "<init>") (hdg : decode cc pc = .ok (.putfield 19, 3)) (he : w[a]? = some (.inr (9, fs))) (hl0 : 4 < fs.length) (hn : narrow (tyX9 4) v = v) (hf : fits (tyX9 4) v = true) (hw : w.set a (.inr (9, fs.set 4 v)) = w2) (kk : R G l y cc nL ret d mc ms Q (pc + 3) lv st w2 k n) : R G l y cc nL ret d mc ms Q pc lv (v :: .ref a :: st) w k n := R_putF (C := RX9) (ref := RX9) (T := TX9) (ty0 := tyX9) (N := 49) (ci := 9) (j := 4) rfl inX9 tyX9_ok nmX9 (by decide) (by rw [hy]; exact w_838) rfl rfl (by rw [hy]; rfl) hini hn hf hdg he hl0 (by rw [hw]; exact kk)
theorem g_X9_22 {a : Nat} {fs : List Value} {v : Value} (hy : y.cls = RX9) (hdg : decode cc pc = .ok (.getfield 22, 3)) (he : w[a]? = some (.inr (9, fs))) (hv : fs[5]? = some v) (kk : R G l y cc nL ret d mc ms Q (pc + 3) lv (v :: st) w k n) : R G l y cc nL ret d mc ms Q pc lv (.ref a :: st) w k n := R_get (C := RX9) (ref := RX9) (T := TX9) (N := 49) (ci := 9) (j := 5) rfl inX9 (by decide) (by rw [hy]; exact w_839) rfl hdg he hv kk
theorem p_X9_22 {a : Nat} {fs : List Value} {v : Value} {w2 : VW} (hy : y.cls = RX9) (hini : y.name = "<init>") (hdg : decode cc pc = .ok (.putfield 22, 3)) (he : w[a]? = some (.inr (9, fs))) (hl0 : 5 < fs.length) (hn : narrow (tyX9 5) v = v) (hf : fits (tyX9 5) v = true) (hw : w.set a (.inr (9, fs.set 5 v)) = w2) (kk : R G l y cc nL ret d mc ms Q (pc + 3) lv st w2 k n) : R G l y cc nL ret d mc ms Q pc lv (v :: .ref a :: st) w k n := R_putF (C := RX9) (ref := RX9) (T := TX9) (ty0 := tyX9) (N := 49) (ci := 9) (j := 5) rfl inX9 tyX9_ok nmX9 (by decide) (by rw [hy]; exact w_839) rfl rfl (by rw [hy]; rfl) hini hn hf hdg he hl0 (by rw [hw]; exact kk)
theorem g_X9_26 {a : Nat} {fs : List Value} {v : Value} (hy : y.cls = RX9) (hdg : decode cc pc = .ok (.getfield 26, 3)) (he : w[a]? = some (.inr (9, fs))) (hv : fs[6]? = some v) (kk : R G l y cc nL ret d mc ms Q (pc + 3) lv (v :: st) w k n) : R G l y cc nL ret d mc ms Q pc lv (.ref a :: st) w k n := R_get (C := RX9) (ref := RX9) (T := TX9) (N := 49) (ci := 9) (j := 6) rfl inX9 (by decide) (by rw [hy]; exact w_840) rfl hdg he hv kk
theorem p_X9_26 {a : Nat} {fs : List Value} {v : Value} {w2 : VW} (hy : y.cls = RX9) (hini : y.name = "<init>") (hdg : decode cc pc = .ok (.putfield 26, 3)) (he : w[a]? = some (.inr (9, fs))) (hl0 : 6 < fs.length) (hn : narrow (tyX9 6) v = v) (hf : fits (tyX9 6) v = true) (hw : w.set a (.inr (9, fs.set 6 v)) = w2) (kk : R G l y cc nL ret d mc ms Q (pc + 3) lv st w2 k n) : R G l y cc nL ret d mc ms Q pc lv (v :: .ref a :: st) w k n := R_putF (C := RX9) (ref := RX9) (T := TX9) (ty0 := tyX9) (N := 49) (ci := 9) (j := 6) rfl inX9 tyX9_ok nmX9 (by decide) (by rw [hy]; exact w_840) rfl rfl (by rw [hy]; rfl) hini hn hf hdg he hl0 (by rw [hw]; exact kk)
theorem g_X9_29 {a : Nat} {fs : List Value} {v : Value} (hy : y.cls = RX9) (hdg : decode cc pc = .ok (.getfield 29, 3)) (he : w[a]? = some (.inr (9, fs))) (hv : fs[7]? = some v) (kk : R G l y cc nL ret d mc ms Q (pc + 3) lv (v :: st) w k n) : R G l y cc nL ret d mc ms Q pc lv (.ref a :: st) w k n := R_get (C := RX9) (ref := RX9) (T := TX9) (N := 49) (ci := 9) (j := 7) rfl inX9 (by decide) (by rw [hy]; exact w_841) rfl hdg he hv kk
theorem p_X9_29 {a : Nat} {fs : List Value} {v : Value} {w2 : VW} (hy : y.cls = RX9) (hini : y.name = "<init>") (hdg : decode cc pc = .ok (.putfield 29, 3)) (he : w[a]? = some (.inr (9, fs))) (hl0 : 7 < fs.length) (hn : narrow (tyX9 7) v = v) (hf : fits (tyX9 7) v = true) (hw : w.set a (.inr (9, fs.set 7 v)) = w2) (kk : R G l y cc nL ret d mc ms Q (pc + 3) lv st w2 k n) : R G l y cc nL ret d mc ms Q pc lv (v :: .ref a :: st) w k n := R_putF (C := RX9) (ref := RX9) (T := TX9) (ty0 := tyX9) (N := 49) (ci := 9) (j := 7) rfl inX9 tyX9_ok nmX9 (by decide) (by rw [hy]; exact w_841) rfl rfl (by rw [hy]; rfl) hini hn hf hdg he hl0 (by rw [hw]; exact kk)
theorem g_X9_32 {a : Nat} {fs : List Value} {v : Value} (hy : y.cls = RX9) (hdg : decode cc pc = .ok (.getfield 32, 3)) (he : w[a]? = some (.inr (9, fs))) (hv : fs[8]? = some v) (kk : R G l y cc nL ret d mc ms Q (pc + 3) lv (v :: st) w k n) : R G l y cc nL ret d mc ms Q pc lv (.ref a :: st) w k n := R_get (C := RX9) (ref := RX9) (T := TX9) (N := 49) (ci := 9) (j := 8) rfl inX9 (by decide) (by rw [hy]; exact w_842) rfl hdg he hv kk
theorem p_X9_32 {a : Nat} {fs : List Value} {v : Value} {w2 : VW} (hy : y.cls = RX9) (hini : y.name = "<init>") (hdg : decode cc pc = .ok (.putfield 32, 3)) (he : w[a]? = some (.inr (9, fs))) (hl0 : 8 < fs.length) (hn : narrow (tyX9 8) v = v) (hf : fits (tyX9 8) v = true) (hw : w.set a (.inr (9, fs.set 8 v)) = w2) (kk : R G l y cc nL ret d mc ms Q (pc + 3) lv st w2 k n) : R G l y cc nL ret d mc ms Q pc lv (v :: .ref a :: st) w k n := R_putF (C := RX9) (ref := RX9) (T := TX9) (ty0 := tyX9) (N := 49) (ci := 9) (j := 8) rfl inX9 tyX9_ok nmX9 (by decide) (by rw [hy]; exact w_842) rfl rfl (by rw [hy]; rfl) hini hn hf hdg he hl0 (by rw [hw]; exact kk)
theorem g_X9_35 {a : Nat} {fs : List Value} {v : Value} (hy : y.cls = RX9) (hdg : decode cc pc = .ok (.getfield 35, 3)) (he : w[a]? = some (.inr (9, fs))) (hv : fs[9]? = some v) (kk : R G l y cc nL ret d mc ms Q (pc + 3) lv (v :: st) w k n) : R G l y cc nL ret d mc ms Q pc lv (.ref a :: st) w k n := R_get (C := RX9) (ref := RX9) (T := TX9) (N := 49) (ci := 9) (j := 9) rfl inX9 (by decide) (by rw [hy]; exact w_843) rfl hdg he hv kk
theorem p_X9_35 {a : Nat} {fs : List Value} {v : Value} {w2 : VW} (hy : y.cls = RX9) (hini : y.name = "<init>") (hdg : decode cc pc = .ok (.putfield 35, 3)) (he : w[a]? = some (.inr (9, fs))) (hl0 : 9 < fs.length) (hn : narrow (tyX9 9) v = v) (hf : fits (tyX9 9) v = true) (hw : w.set a (.inr (9, fs.set 9 v)) = w2) (kk : R G l y cc nL ret d mc ms Q (pc + 3) lv st w2 k n) : R G l y cc nL ret d mc ms Q pc lv (v :: .ref a :: st) w k n := R_putF (C := RX9) (ref := RX9) (T := TX9) (ty0 := tyX9) (N := 49) (ci := 9) (j := 9) rfl inX9 tyX9_ok nmX9 (by decide) (by rw [hy]; exact w_843) rfl rfl (by rw [hy]; rfl) hini hn hf hdg he hl0 (by rw [hw]; exact kk)
theorem g_X9_38 {a : Nat} {fs : List Value} {v : Value} (hy : y.cls = RX9) (hdg : decode cc pc = .ok (.getfield 38, 3)) (he : w[a]? = some (.inr (9, fs))) (hv : fs[10]? = some v) (kk : R G l y cc nL ret d mc ms Q (pc + 3) lv (v :: st) w k n) : R G l y cc nL ret d mc ms Q pc lv (.ref a :: st) w k n := R_get (C := RX9) (ref := RX9) (T := TX9) (N := 49) (ci := 9) (j := 10) rfl inX9 (by decide) (by rw [hy]; exact w_844) rfl hdg he hv kk
theorem p_X9_38 {a : Nat} {fs : List Value} {v : Value} {w2 : VW} (hy : y.cls = RX9) (hini : y.name = "<init>") (hdg : decode cc pc = .ok (.putfield 38, 3)) (he : w[a]? = some (.inr (9, fs))) (hl0 : 10 < fs.length) (hn : narrow (tyX9 10) v = v) (hf : fits (tyX9 10) v = true) (hw : w.set a (.inr (9, fs.set 10 v)) = w2) (kk : R G l y cc nL ret d mc ms Q (pc + 3) lv st w2 k n) : R G l y cc nL ret d mc ms Q pc lv (v :: .ref a :: st) w k n := R_putF (C := RX9) (ref := RX9) (T := TX9) (ty0 := tyX9) (N := 49) (ci := 9) (j := 10) rfl inX9 tyX9_ok nmX9 (by decide) (by rw [hy]; exact w_844) rfl rfl (by rw [hy]; rfl) hini hn hf hdg he hl0 (by rw [hw]; exact kk)
theorem g_X9_132 {a : Nat} {fs : List Value} {v : Value} (hy : y.cls = RX9) (hdg : decode cc pc = .ok (.getfield 132, 3)) (he : w[a]? = some (.inr (9, fs))) (hv : fs[11]? = some v) (kk : R G l y cc nL ret d mc ms Q (pc + 3) lv (v :: st) w k n) : R G l y cc nL ret d mc ms Q pc lv (.ref a :: st) w k n := R_get (C := RX9) (ref := RX9) (T := TX9) (N := 49) (ci := 9) (j := 11) rfl inX9 (by decide) (by rw [hy]; exact w_845) rfl hdg he hv kk
theorem p_X9_132 {a : Nat} {fs : List Value} {v : Value} {w2 : VW} (hy : y.cls = RX9) (hdg : decode cc pc = .ok (.putfield 132, 3)) (he : w[a]? = some (.inr (9, fs))) (hl0 : 11 < fs.length) (hn : narrow (tyX9 11) v = v) (hf : fits (tyX9 11) v = true) (hw : w.set a (.inr (9, fs.set 11 v)) = w2) (kk : R G l y cc nL ret d mc ms Q (pc + 3) lv st w2 k n) : R G l y cc nL ret d mc ms Q pc lv (v :: .ref a :: st) w k n := R_put (C := RX9) (ref := RX9) (T := TX9) (ty0 := tyX9) (N := 49) (ci := 9) (j := 11) rfl inX9 tyX9_ok nmX9 (by decide) (by rw [hy]; exact w_845) rfl rfl hn hf hdg he hl0 (by rw [hw]; exact kk)
theorem g_X9_41 {a : Nat} {fs : List Value} {v : Value} (hy : y.cls = RX9) (hdg : decode cc pc = .ok (.getfield 41, 3)) (he : w[a]? = some (.inr (9, fs))) (hv : fs[12]? = some v) (kk : R G l y cc nL ret d mc ms Q (pc + 3) lv (v :: st) w k n) : R G l y cc nL ret d mc ms Q pc lv (.ref a :: st) w k n := R_get (C := RX9) (ref := RX9) (T := TX9) (N := 49) (ci := 9) (j := 12) rfl inX9 (by decide) (by rw [hy]; exact w_846) rfl hdg he hv kk
theorem p_X9_41 {a : Nat} {fs : List Value} {v : Value} {w2 : VW} (hy : y.cls = RX9) (hdg : decode cc pc = .ok (.putfield 41, 3)) (he : w[a]? = some (.inr (9, fs))) (hl0 : 12 < fs.length) (hn : narrow (tyX9 12) v = v) (hf : fits (tyX9 12) v = true) (hw : w.set a (.inr (9, fs.set 12 v)) = w2) (kk : R G l y cc nL ret d mc ms Q (pc + 3) lv st w2 k n) : R G l y cc nL ret d mc ms Q pc lv (v :: .ref a :: st) w k n := R_put (C := RX9) (ref := RX9) (T := TX9) (ty0 := tyX9) (N := 49) (ci := 9) (j := 12) rfl inX9 tyX9_ok nmX9 (by decide) (by rw [hy]; exact w_846) rfl rfl hn hf hdg he hl0 (by rw [hw]; exact kk)
theorem g_X9_45 {a : Nat} {fs : List Value} {v : Value} (hy : y.cls = RX9) (hdg : decode cc pc = .ok (.getfield 45, 3)) (he : w[a]? = some (.inr (9, fs))) (hv : fs[13]? = some v) (kk : R G l y cc nL ret d mc ms Q (pc + 3) lv (v :: st) w k n) : R G l y cc nL ret d mc ms Q pc lv (.ref a :: st) w k n := R_get (C := RX9) (ref := RX9) (T := TX9) (N := 49) (ci := 9) (j := 13) rfl inX9 (by decide) (by rw [hy]; exact w_847) rfl hdg he hv kk
theorem p_X9_45 {a : Nat} {fs : List Value} {v : Value} {w2 : VW} (hy : y.cls = RX9) (hdg : decode cc pc = .ok (.putfield 45, 3)) (he : w[a]? = some (.inr (9, fs))) (hl0 : 13 < fs.length) (hn : narrow (tyX9 13) v = v) (hf : fits (tyX9 13) v = true) (hw : w.set a (.inr (9, fs.set 13 v)) = w2) (kk : R G l y cc nL ret d mc ms Q (pc + 3) lv st w2 k n) : R G l y cc nL ret d mc ms Q pc lv (v :: .ref a :: st) w k n := R_put (C := RX9) (ref := RX9) (T := TX9) (ty0 := tyX9) (N := 49) (ci := 9) (j := 13) rfl inX9 tyX9_ok nmX9 (by decide) (by rw [hy]; exact w_847) rfl rfl hn hf hdg he hl0 (by rw [hw]; exact kk)
theorem g_X9_48 {a : Nat} {fs : List Value} {v : Value} (hy : y.cls = RX9) (hdg : decode cc pc = .ok (.getfield 48, 3)) (he : w[a]? = some (.inr (9, fs))) (hv : fs[14]? = some v) (kk : R G l y cc nL ret d mc ms Q (pc + 3) lv (v :: st) w k n) : R G l y cc nL ret d mc ms Q pc lv (.ref a :: st) w k n := R_get (C := RX9) (ref := RX9) (T := TX9) (N := 49) (ci := 9) (j := 14) rfl inX9 (by decide) (by rw [hy]; exact w_848) rfl hdg he hv kk
theorem p_X9_48 {a : Nat} {fs : List Value} {v : Value} {w2 : VW} (hy : y.cls = RX9) (hdg : decode cc pc = .ok (.putfield 48, 3)) (he : w[a]? = some (.inr (9, fs))) (hl0 : 14 < fs.length) (hn : narrow (tyX9 14) v = v) (hf : fits (tyX9 14) v = true) (hw : w.set a (.inr (9, fs.set 14 v)) = w2) (kk : R G l y cc nL ret d mc ms Q (pc + 3) lv st w2 k n) : R G l y cc nL ret d mc ms Q pc lv (v :: .ref a :: st) w k n := R_put (C := RX9) (ref := RX9) (T := TX9) (ty0 := tyX9) (N := 49) (ci := 9) (j := 14) rfl inX9 tyX9_ok nmX9 (by decide) (by rw [hy]; exact w_848) rfl rfl hn hf hdg he hl0 (by rw [hw]; exact kk)
theorem g_X9_51 {a : Nat} {fs : List Value} {v : Value} (hy : y.cls = RX9) (hdg : decode cc pc = .ok (.getfield 51, 3)) (he : w[a]? = some (.inr (9, fs))) (hv : fs[15]? = some v) (kk : R G l y cc nL ret d mc ms Q (pc + 3) lv (v :: st) w k n) : R G l y cc nL ret d mc ms Q pc lv (.ref a :: st) w k n := R_get (C := RX9) (ref := RX9) (T := TX9) (N := 49) (ci := 9) (j := 15) rfl inX9 (by decide) (by rw [hy]; exact w_849) rfl hdg he hv kk
theorem p_X9_51 {a : Nat} {fs : List Value} {v : Value} {w2 : VW} (hy : y.cls = RX9) (hini : y.name = "<init>") (hdg : decode cc pc = .ok (.putfield 51, 3)) (he : w[a]? = some (.inr (9, fs))) (hl0 : 15 < fs.length) (hn : narrow (tyX9 15) v = v) (hf : fits (tyX9 15) v = true) (hw : w.set a (.inr (9, fs.set 15 v)) = w2) (kk : R G l y cc nL ret d mc ms Q (pc + 3) lv st w2 k n) : R G l y cc nL ret d mc ms Q pc lv (v :: .ref a :: st) w k n := R_putF (C := RX9) (ref := RX9) (T := TX9) (ty0 := tyX9) (N := 49) (ci := 9) (j := 15) rfl inX9 tyX9_ok nmX9 (by decide) (by rw [hy]; exact w_849) rfl rfl (by rw [hy]; rfl) hini hn hf hdg he hl0 (by rw [hw]; exact kk)
theorem g_X9_54 {a : Nat} {fs : List Value} {v : Value} (hy : y.cls = RX9) (hdg : decode cc pc = .ok (.getfield 54, 3)) (he : w[a]? = some (.inr (9, fs))) (hv : fs[16]? = some v) (kk : R G l y cc nL ret d mc ms Q (pc + 3) lv (v :: st) w k n) : R G l y cc nL ret d mc ms Q pc lv (.ref a :: st) w k n := R_get (C := RX9) (ref := RX9) (T := TX9) (N := 49) (ci := 9) (j := 16) rfl inX9 (by decide) (by rw [hy]; exact w_850) rfl hdg he hv kk
theorem p_X9_54 {a : Nat} {fs : List Value} {v : Value} {w2 : VW} (hy : y.cls = RX9) (hini : y.name = "<init>") (hdg : decode cc pc = .ok (.putfield 54, 3)) (he : w[a]? = some (.inr (9, fs))) (hl0 : 16 < fs.length) (hn : narrow (tyX9 16) v = v) (hf : fits (tyX9 16) v = true) (hw : w.set a (.inr (9, fs.set 16 v)) = w2) (kk : R G l y cc nL ret d mc ms Q (pc + 3) lv st w2 k n) : R G l y cc nL ret d mc ms Q pc lv (v :: .ref a :: st) w k n := R_putF (C := RX9) (ref := RX9) (T := TX9) (ty0 := tyX9) (N := 49) (ci := 9) (j := 16) rfl inX9 tyX9_ok nmX9 (by decide) (by rw [hy]; exact w_850) rfl rfl (by rw [hy]; rfl) hini hn hf hdg he hl0 (by rw [hw]; exact kk)
theorem g_X9_57 {a : Nat} {fs : List Value} {v : Value} (hy : y.cls = RX9) (hdg : decode cc pc = .ok (.getfield 57, 3)) (he : w[a]? = some (.inr (9, fs))) (hv : fs[17]? = some v) (kk : R G l y cc nL ret d mc ms Q (pc + 3) lv (v :: st) w k n) : R G l y cc nL ret d mc ms Q pc lv (.ref a :: st) w k n := R_get (C := RX9) (ref := RX9) (T := TX9) (N := 49) (ci := 9) (j := 17) rfl inX9 (by decide) (by rw [hy]; exact w_851) rfl hdg he hv kk
theorem p_X9_57 {a : Nat} {fs : List Value} {v : Value} {w2 : VW} (hy : y.cls = RX9) (hini : y.name = "<init>") (hdg : decode cc pc = .ok (.putfield 57, 3)) (he : w[a]? = some (.inr (9, fs))) (hl0 : 17 < fs.length) (hn : narrow (tyX9 17) v = v) (hf : fits (tyX9 17) v = true) (hw : w.set a (.inr (9, fs.set 17 v)) = w2) (kk : R G l y cc nL ret d mc ms Q (pc + 3) lv st w2 k n) : R G l y cc nL ret d mc ms Q pc lv (v :: .ref a :: st) w k n := R_putF (C := RX9) (ref := RX9) (T := TX9) (ty0 := tyX9) (N := 49) (ci := 9) (j := 17) rfl inX9 tyX9_ok nmX9 (by decide) (by rw [hy]; exact w_851) rfl rfl (by rw [hy]; rfl) hini hn hf hdg he hl0 (by rw [hw]; exact kk)
theorem g_X9_60 {a : Nat} {fs : List Value} {v : Value} (hy : y.cls = RX9) (hdg : decode cc pc = .ok (.getfield 60, 3)) (he : w[a]? = some (.inr (9, fs))) (hv : fs[18]? = some v) (kk : R G l y cc nL ret d mc ms Q (pc + 3) lv (v :: st) w k n) : R G l y cc nL ret d mc ms Q pc lv (.ref a :: st) w k n := R_get (C := RX9) (ref := RX9) (T := TX9) (N := 49) (ci := 9) (j := 18) rfl inX9 (by decide) (by rw [hy]; exact w_852) rfl hdg he hv kk
theorem p_X9_60 {a : Nat} {fs : List Value} {v : Value} {w2 : VW} (hy : y.cls = RX9) (hini : y.name = "<init>") (hdg : decode cc pc = .ok (.putfield 60, 3)) (he : w[a]? = some (.inr (9, fs))) (hl0 : 18 < fs.length) (hn : narrow (tyX9 18) v = v) (hf : fits (tyX9 18) v = true) (hw : w.set a (.inr (9, fs.set 18 v)) = w2) (kk : R G l y cc nL ret d mc ms Q (pc + 3) lv st w2 k n) : R G l y cc nL ret d mc ms Q pc lv (v :: .ref a :: st) w k n := R_putF (C := RX9) (ref := RX9) (T := TX9) (ty0 := tyX9) (N := 49) (ci := 9) (j := 18) rfl inX9 tyX9_ok nmX9 (by decide) (by rw [hy]; exact w_852) rfl rfl (by rw [hy]; rfl) hini hn hf hdg he hl0 (by rw [hw]; exact kk)
theorem g_X9_63 {a : Nat} {fs : List Value} {v : Value} (hy : y.cls = RX9) (hdg : decode cc pc = .ok (.getfield 63, 3)) (he : w[a]? = some (.inr (9, fs))) (hv : fs[19]? = some v) (kk : R G l y cc nL ret d mc ms Q (pc + 3) lv (v :: st) w k n) : R G l y cc nL ret d mc ms Q pc lv (.ref a :: st) w k n := R_get (C := RX9) (ref := RX9) (T := TX9) (N := 49) (ci := 9) (j := 19) rfl inX9 (by decide) (by rw [hy]; exact w_853) rfl hdg he hv kk
theorem p_X9_63 {a : Nat} {fs : List Value} {v : Value} {w2 : VW} (hy : y.cls = RX9) (hini : y.name = "<init>") (hdg : decode cc pc = .ok (.putfield 63, 3)) (he : w[a]? = some (.inr (9, fs))) (hl0 : 19 < fs.length) (hn : narrow (tyX9 19) v = v) (hf : fits (tyX9 19) v = true) (hw : w.set a (.inr (9, fs.set 19 v)) = w2) (kk : R G l y cc nL ret d mc ms Q (pc + 3) lv st w2 k n) : R G l y cc nL ret d mc ms Q pc lv (v :: .ref a :: st) w k n := R_putF (C := RX9) (ref := RX9) (T := TX9) (ty0 := tyX9) (N := 49) (ci := 9) (j := 19) rfl inX9 tyX9_ok nmX9 (by decide) (by rw [hy]; exact w_853) rfl rfl (by rw [hy]; rfl) hini hn hf hdg he hl0 (by rw [hw]; exact kk)
theorem g_X9_66 {a : Nat} {fs : List Value} {v : Value} (hy : y.cls = RX9) (hdg : decode cc pc = .ok (.getfield 66, 3)) (he : w[a]? = some (.inr (9, fs))) (hv : fs[20]? = some v) (kk : R G l y cc nL ret d mc ms Q (pc + 3) lv (v :: st) w k n) : R G l y cc nL ret d mc ms Q pc lv (.ref a :: st) w k n := R_get (C := RX9) (ref := RX9) (T := TX9) (N := 49) (ci := 9) (j := 20) rfl inX9 (by decide) (by rw [hy]; exact w_854) rfl hdg he hv kk
theorem p_X9_66 {a : Nat} {fs : List Value} {v : Value} {w2 : VW} (hy : y.cls = RX9) (hini : y.name = "<init>") (hdg : decode cc pc = .ok (.putfield 66, 3)) (he : w[a]? = some (.inr (9, fs))) (hl0 : 20 < fs.length) (hn : narrow (tyX9 20) v = v) (hf : fits (tyX9 20) v = true) (hw : w.set a (.inr (9, fs.set 20 v)) = w2) (kk : R G l y cc nL ret d mc ms Q (pc + 3) lv st w2 k n) : R G l y cc nL ret d mc ms Q pc lv (v :: .ref a :: st) w k n := R_putF (C := RX9) (ref := RX9) (T := TX9) (ty0 := tyX9) (N := 49) (ci := 9) (j := 20) rfl inX9 tyX9_ok nmX9 (by decide) (by rw [hy]; exact w_854) rfl rfl (by rw [hy]; rfl) hini hn hf hdg he hl0 (by rw [hw]; exact kk)
theorem g_X9_69 {a : Nat} {fs : List Value} {v : Value} (hy : y.cls = RX9) (hdg : decode cc pc = .ok (.getfield 69, 3)) (he : w[a]? = some (.inr (9, fs))) (hv : fs[21]? = some v) (kk : R G l y cc nL ret d mc ms Q (pc + 3) lv (v :: st) w k n) : R G l y cc nL ret d mc ms Q pc lv (.ref a :: st) w k n := R_get (C := RX9) (ref := RX9) (T := TX9) (N := 49) (ci := 9) (j := 21) rfl inX9 (by decide) (by rw [hy]; exact w_855) rfl hdg he hv kk
theorem p_X9_69 {a : Nat} {fs : List Value} {v : Value} {w2 : VW} (hy : y.cls = RX9) (hini : y.name = "<init>") (hdg : decode cc pc = .ok (.putfield 69, 3)) (he : w[a]? = some (.inr (9, fs))) (hl0 : 21 < fs.length) (hn : narrow (tyX9 21) v = v) (hf : fits (tyX9 21) v = true) (hw : w.set a (.inr (9, fs.set 21 v)) = w2) (kk : R G l y cc nL ret d mc ms Q (pc + 3) lv st w2 k n) : R G l y cc nL ret d mc ms Q pc lv (v :: .ref a :: st) w k n := R_putF (C := RX9) (ref := RX9) (T := TX9) (ty0 := tyX9) (N := 49) (ci := 9) (j := 21) rfl inX9 tyX9_ok nmX9 (by decide) (by rw [hy]; exact w_855) rfl rfl (by rw [hy]; rfl) hini hn hf hdg he hl0 (by rw [hw]; exact kk)
theorem g_X9_72 {a : Nat} {fs : List Value} {v : Value} (hy : y.cls = RX9) (hdg : decode cc pc = .ok (.getfield 72, 3)) (he : w[a]? = some (.inr (9, fs))) (hv : fs[22]? = some v) (kk : R G l y cc nL ret d mc ms Q (pc + 3) lv (v :: st) w k n) : R G l y cc nL ret d mc ms Q pc lv (.ref a :: st) w k n := R_get (C := RX9) (ref := RX9) (T := TX9) (N := 49) (ci := 9) (j := 22) rfl inX9 (by decide) (by rw [hy]; exact w_856) rfl hdg he hv kk
theorem p_X9_72 {a : Nat} {fs : List Value} {v : Value} {w2 : VW} (hy : y.cls = RX9) (hini : y.name = "<init>") (hdg : decode cc pc = .ok (.putfield 72, 3)) (he : w[a]? = some (.inr (9, fs))) (hl0 : 22 < fs.length) (hn : narrow (tyX9 22) v = v) (hf : fits (tyX9 22) v = true) (hw : w.set a (.inr (9, fs.set 22 v)) = w2) (kk : R G l y cc nL ret d mc ms Q (pc + 3) lv st w2 k n) : R G l y cc nL ret d mc ms Q pc lv (v :: .ref a :: st) w k n := R_putF (C := RX9) (ref := RX9) (T := TX9) (ty0 := tyX9) (N := 49) (ci := 9) (j := 22) rfl inX9 tyX9_ok nmX9 (by decide) (by rw [hy]; exact w_856) rfl rfl (by rw [hy]; rfl) hini hn hf hdg he hl0 (by rw [hw]; exact kk)
theorem g_X9_75 {a : Nat} {fs : List Value} {v : Value} (hy : y.cls = RX9) (hdg : decode cc pc = .ok (.getfield 75, 3)) (he : w[a]? = some (.inr (9, fs))) (hv : fs[23]? = some v) (kk : R G l y cc nL ret d mc ms Q (pc + 3) lv (v :: st) w k n) : R G l y cc nL ret d mc ms Q pc lv (.ref a :: st) w k n := R_get (C := RX9) (ref := RX9) (T := TX9) (N := 49) (ci := 9) (j := 23) rfl inX9 (by decide) (by rw [hy]; exact w_857) rfl hdg he hv kk
theorem p_X9_75 {a : Nat} {fs : List Value} {v : Value} {w2 : VW} (hy : y.cls = RX9) (hini : y.name = "<init>") (hdg : decode cc pc = .ok (.putfield 75, 3)) (he : w[a]? = some (.inr (9, fs))) (hl0 : 23 < fs.length) (hn : narrow (tyX9 23) v = v) (hf : fits (tyX9 23) v = true) (hw : w.set a (.inr (9, fs.set 23 v)) = w2) (kk : R G l y cc nL ret d mc ms Q (pc + 3) lv st w2 k n) : R G l y cc nL ret d mc ms Q pc lv (v :: .ref a :: st) w k n := R_putF (C := RX9) (ref := RX9) (T := TX9) (ty0 := tyX9) (N := 49) (ci := 9) (j := 23) rfl inX9 tyX9_ok nmX9 (by decide) (by rw [hy]; exact w_857) rfl rfl (by rw [hy]; rfl) hini hn hf hdg he hl0 (by rw [hw]; exact kk)
theorem g_X9_78 {a : Nat} {fs : List Value} {v : Value} (hy : y.cls = RX9) (hdg : decode cc pc = .ok (.getfield 78, 3)) (he : w[a]? = some (.inr (9, fs))) (hv : fs[24]? = some v) (kk : R G l y cc nL ret d mc ms Q (pc + 3) lv (v :: st) w k n) : R G l y cc nL ret d mc ms Q pc lv (.ref a :: st) w k n := R_get (C := RX9) (ref := RX9) (T := TX9) (N := 49) (ci := 9) (j := 24) rfl inX9 (by decide) (by rw [hy]; exact w_858) rfl hdg he hv kk
theorem p_X9_78 {a : Nat} {fs : List Value} {v : Value} {w2 : VW} (hy : y.cls = RX9) (hini : y.name = "<init>") (hdg : decode cc pc = .ok (.putfield 78, 3)) (he : w[a]? = some (.inr (9, fs))) (hl0 : 24 < fs.length) (hn : narrow (tyX9 24) v = v) (hf : fits (tyX9 24) v = true) (hw : w.set a (.inr (9, fs.set 24 v)) = w2) (kk : R G l y cc nL ret d mc ms Q (pc + 3) lv st w2 k n) : R G l y cc nL ret d mc ms Q pc lv (v :: .ref a :: st) w k n := R_putF (C := RX9) (ref := RX9) (T := TX9) (ty0 := tyX9) (N := 49) (ci := 9) (j := 24) rfl inX9 tyX9_ok nmX9 (by decide) (by rw [hy]; exact w_858) rfl rfl (by rw [hy]; rfl) hini hn hf hdg he hl0 (by rw [hw]; exact kk)
theorem g_X9_201 {a : Nat} {fs : List Value} {v : Value} (hy : y.cls = RX9) (hdg : decode cc pc = .ok (.getfield 201, 3)) (he : w[a]? = some (.inr (9, fs))) (hv : fs[25]? = some v) (kk : R G l y cc nL ret d mc ms Q (pc + 3) lv (v :: st) w k n) : R G l y cc nL ret d mc ms Q pc lv (.ref a :: st) w k n := R_get (C := RX9) (ref := RX9) (T := TX9) (N := 49) (ci := 9) (j := 25) rfl inX9 (by decide) (by rw [hy]; exact w_859) rfl hdg he hv kk
theorem p_X9_201 {a : Nat} {fs : List Value} {v : Value} {w2 : VW} (hy : y.cls = RX9) (hdg : decode cc pc = .ok (.putfield 201, 3)) (he : w[a]? = some (.inr (9, fs))) (hl0 : 25 < fs.length) (hn : narrow (tyX9 25) v = v) (hf : fits (tyX9 25) v = true) (hw : w.set a (.inr (9, fs.set 25 v)) = w2) (kk : R G l y cc nL ret d mc ms Q (pc + 3) lv st w2 k n) : R G l y cc nL ret d mc ms Q pc lv (v :: .ref a :: st) w k n := R_put (C := RX9) (ref := RX9) (T := TX9) (ty0 := tyX9) (N := 49) (ci := 9) (j := 25) rfl inX9 tyX9_ok nmX9 (by decide) (by rw [hy]; exact w_859) rfl rfl hn hf hdg he hl0 (by rw [hw]; exact kk)
theorem g_X9_81 {a : Nat} {fs : List Value} {v : Value} (hy : y.cls = RX9) (hdg : decode cc pc = .ok (.getfield 81, 3)) (he : w[a]? = some (.inr (9, fs))) (hv : fs[26]? = some v) (kk : R G l y cc nL ret d mc ms Q (pc + 3) lv (v :: st) w k n) : R G l y cc nL ret d mc ms Q pc lv (.ref a :: st) w k n := R_get (C := RX9) (ref := RX9) (T := TX9) (N := 49) (ci := 9) (j := 26) rfl inX9 (by decide) (by rw [hy]; exact w_860) rfl hdg he hv kk
theorem p_X9_81 {a : Nat} {fs : List Value} {v : Value} {w2 : VW} (hy : y.cls = RX9) (hini : y.name = "<init>") (hdg : decode cc pc = .ok (.putfield 81, 3)) (he : w[a]? = some (.inr (9, fs))) (hl0 : 26 < fs.length) (hn : narrow (tyX9 26) v = v) (hf : fits (tyX9 26) v = true) (hw : w.set a (.inr (9, fs.set 26 v)) = w2) (kk : R G l y cc nL ret d mc ms Q (pc + 3) lv st w2 k n) : R G l y cc nL ret d mc ms Q pc lv (v :: .ref a :: st) w k n := R_putF (C := RX9) (ref := RX9) (T := TX9) (ty0 := tyX9) (N := 49) (ci := 9) (j := 26) rfl inX9 tyX9_ok nmX9 (by decide) (by rw [hy]; exact w_860) rfl rfl (by rw [hy]; rfl) hini hn hf hdg he hl0 (by rw [hw]; exact kk)
theorem g_X9_84 {a : Nat} {fs : List Value} {v : Value} (hy : y.cls = RX9) (hdg : decode cc pc = .ok (.getfield 84, 3)) (he : w[a]? = some (.inr (9, fs))) (hv : fs[27]? = some v) (kk : R G l y cc nL ret d mc ms Q (pc + 3) lv (v :: st) w k n) : R G l y cc nL ret d mc ms Q pc lv (.ref a :: st) w k n := R_get (C := RX9) (ref := RX9) (T := TX9) (N := 49) (ci := 9) (j := 27) rfl inX9 (by decide) (by rw [hy]; exact w_861) rfl hdg he hv kk
theorem p_X9_84 {a : Nat} {fs : List Value} {v : Value} {w2 : VW} (hy : y.cls = RX9) (hini : y.name = "<init>") (hdg : decode cc pc = .ok (.putfield 84, 3)) (he : w[a]? = some (.inr (9, fs))) (hl0 : 27 < fs.length) (hn : narrow (tyX9 27) v = v) (hf : fits (tyX9 27) v = true) (hw : w.set a (.inr (9, fs.set 27 v)) = w2) (kk : R G l y cc nL ret d mc ms Q (pc + 3) lv st w2 k n) : R G l y cc nL ret d mc ms Q pc lv (v :: .ref a :: st) w k n := R_putF (C := RX9) (ref := RX9) (T := TX9) (ty0 := tyX9) (N := 49) (ci := 9) (j := 27) rfl inX9 tyX9_ok nmX9 (by decide) (by rw [hy]; exact w_861) rfl rfl (by rw [hy]; rfl) hini hn hf hdg he hl0 (by rw [hw]; exact kk)
theorem g_X9_87 {a : Nat} {fs : List Value} {v : Value} (hy : y.cls = RX9) (hdg : decode cc pc = .ok (.getfield 87, 3)) (he : w[a]? = some (.inr (9, fs))) (hv : fs[28]? = some v) (kk : R G l y cc nL ret d mc ms Q (pc + 3) lv (v :: st) w k n) : R G l y cc nL ret d mc ms Q pc lv (.ref a :: st) w k n := R_get (C := RX9) (ref := RX9) (T := TX9) (N := 49) (ci := 9) (j := 28) rfl inX9 (by decide) (by rw [hy]; exact w_862) rfl hdg he hv kk
theorem p_X9_87 {a : Nat} {fs : List Value} {v : Value} {w2 : VW} (hy : y.cls = RX9) (hini : y.name = "<init>") (hdg : decode cc pc = .ok (.putfield 87, 3)) (he : w[a]? = some (.inr (9, fs))) (hl0 : 28 < fs.length) (hn : narrow (tyX9 28) v = v) (hf : fits (tyX9 28) v = true) (hw : w.set a (.inr (9, fs.set 28 v)) = w2) (kk : R G l y cc nL ret d mc ms Q (pc + 3) lv st w2 k n) : R G l y cc nL ret d mc ms Q pc lv (v :: .ref a :: st) w k n := R_putF (C := RX9) (ref := RX9) (T := TX9) (ty0 := tyX9) (N := 49) (ci := 9) (j := 28) rfl inX9 tyX9_ok nmX9 (by decide) (by rw [hy]; exact w_862) rfl rfl (by rw [hy]; rfl) hini hn hf hdg he hl0 (by rw [hw]; exact kk)
theorem g_X9_90 {a : Nat} {fs : List Value} {v : Value} (hy : y.cls = RX9) (hdg : decode cc pc = .ok (.getfield 90, 3)) (he : w[a]? = some (.inr (9, fs))) (hv : fs[29]? = some v) (kk : R G l y cc nL ret d mc ms Q (pc + 3) lv (v :: st) w k n) : R G l y cc nL ret d mc ms Q pc lv (.ref a :: st) w k n := R_get (C := RX9) (ref := RX9) (T := TX9) (N := 49) (ci := 9) (j := 29) rfl inX9 (by decide) (by rw [hy]; exact w_863) rfl hdg he hv kk
theorem p_X9_90 {a : Nat} {fs : List Value} {v : Value} {w2 : VW} (hy : y.cls = RX9) (hini : y.name = "<init>") (hdg : decode cc pc = .ok (.putfield 90, 3)) (he : w[a]? = some (.inr (9, fs))) (hl0 : 29 < fs.length) (hn : narrow (tyX9 29) v = v) (hf : fits (tyX9 29) v = true) (hw : w.set a (.inr (9, fs.set 29 v)) = w2) (kk : R G l y cc nL ret d mc ms Q (pc + 3) lv st w2 k n) : R G l y cc nL ret d mc ms Q pc lv (v :: .ref a :: st) w k n := R_putF (C := RX9) (ref := RX9) (T := TX9) (ty0 := tyX9) (N := 49) (ci := 9) (j := 29) rfl inX9 tyX9_ok nmX9 (by decide) (by rw [hy]; exact w_863) rfl rfl (by rw [hy]; rfl) hini hn hf hdg he hl0 (by rw [hw]; exact kk)
theorem g_X9_93 {a : Nat} {fs : List Value} {v : Value} (hy : y.cls = RX9) (hdg : decode cc pc = .ok (.getfield 93, 3)) (he : w[a]? = some (.inr (9, fs))) (hv : fs[30]? = some v) (kk : R G l y cc nL ret d mc ms Q (pc + 3) lv (v :: st) w k n) : R G l y cc nL ret d mc ms Q pc lv (.ref a :: st) w k n := R_get (C := RX9) (ref := RX9) (T := TX9) (N := 49) (ci := 9) (j := 30) rfl inX9 (by decide) (by rw [hy]; exact w_864) rfl hdg he hv kk
theorem p_X9_93 {a : Nat} {fs : List Value} {v : Value} {w2 : VW} (hy : y.cls = RX9) (hini : y.name = "<init>") (hdg : decode cc pc = .ok (.putfield 93, 3)) (he : w[a]? = some (.inr (9, fs))) (hl0 : 30 < fs.length) (hn : narrow (tyX9 30) v = v) (hf : fits (tyX9 30) v = true) (hw : w.set a (.inr (9, fs.set 30 v)) = w2) (kk : R G l y cc nL ret d mc ms Q (pc + 3) lv st w2 k n) : R G l y cc nL ret d mc ms Q pc lv (v :: .ref a :: st) w k n := R_putF (C := RX9) (ref := RX9) (T := TX9) (ty0 := tyX9) (N := 49) (ci := 9) (j := 30) rfl inX9 tyX9_ok nmX9 (by decide) (by rw [hy]; exact w_864) rfl rfl (by rw [hy]; rfl) hini hn hf hdg he hl0 (by rw [hw]; exact kk)
theorem g_X9_96 {a : Nat} {fs : List Value} {v : Value} (hy : y.cls = RX9) (hdg : decode cc pc = .ok (.getfield 96, 3)) (he : w[a]? = some (.inr (9, fs))) (hv : fs[31]? = some v) (kk : R G l y cc nL ret d mc ms Q (pc + 3) lv (v :: st) w k n) : R G l y cc nL ret d mc ms Q pc lv (.ref a :: st) w k n := R_get (C := RX9) (ref := RX9) (T := TX9) (N := 49) (ci := 9) (j := 31) rfl inX9 (by decide) (by rw [hy]; exact w_865) rfl hdg he hv kk
theorem p_X9_96 {a : Nat} {fs : List Value} {v : Value} {w2 : VW} (hy : y.cls = RX9) (hini : y.name = "<init>") (hdg : decode cc pc = .ok (.putfield 96, 3)) (he : w[a]? = some (.inr (9, fs))) (hl0 : 31 < fs.length) (hn : narrow (tyX9 31) v = v) (hf : fits (tyX9 31) v = true) (hw : w.set a (.inr (9, fs.set 31 v)) = w2) (kk : R G l y cc nL ret d mc ms Q (pc + 3) lv st w2 k n) : R G l y cc nL ret d mc ms Q pc lv (v :: .ref a :: st) w k n := R_putF (C := RX9) (ref := RX9) (T := TX9) (ty0 := tyX9) (N := 49) (ci := 9) (j := 31) rfl inX9 tyX9_ok nmX9 (by decide) (by rw [hy]; exact w_865) rfl rfl (by rw [hy]; rfl) hini hn hf hdg he hl0 (by rw [hw]; exact kk)
theorem g_X9_204 {a : Nat} {fs : List Value} {v : Value} (hy : y.cls = RX9) (hdg : decode cc pc = .ok (.getfield 204, 3)) (he : w[a]? = some (.inr (9, fs))) (hv : fs[32]? = some v) (kk : R G l y cc nL ret d mc ms Q (pc + 3) lv (v :: st) w k n) : R G l y cc nL ret d mc ms Q pc lv (.ref a :: st) w k n := R_get (C := RX9) (ref := RX9) (T := TX9) (N := 49) (ci := 9) (j := 32) rfl inX9 (by decide) (by rw [hy]; exact w_866) rfl hdg he hv kk
theorem p_X9_204 {a : Nat} {fs : List Value} {v : Value} {w2 : VW} (hy : y.cls = RX9) (hdg : decode cc pc = .ok (.putfield 204, 3)) (he : w[a]? = some (.inr (9, fs))) (hl0 : 32 < fs.length) (hn : narrow (tyX9 32) v = v) (hf : fits (tyX9 32) v = true) (hw : w.set a (.inr (9, fs.set 32 v)) = w2) (kk : R G l y cc nL ret d mc ms Q (pc + 3) lv st w2 k n) : R G l y cc nL ret d mc ms Q pc lv (v :: .ref a :: st) w k n := R_put (C := RX9) (ref := RX9) (T := TX9) (ty0 := tyX9) (N := 49) (ci := 9) (j := 32) rfl inX9 tyX9_ok nmX9 (by decide) (by rw [hy]; exact w_866) rfl rfl hn hf hdg he hl0 (by rw [hw]; exact kk)
theorem g_X9_99 {a : Nat} {fs : List Value} {v : Value} (hy : y.cls = RX9) (hdg : decode cc pc = .ok (.getfield 99, 3)) (he : w[a]? = some (.inr (9, fs))) (hv : fs[33]? = some v) (kk : R G l y cc nL ret d mc ms Q (pc + 3) lv (v :: st) w k n) : R G l y cc nL ret d mc ms Q pc lv (.ref a :: st) w k n := R_get (C := RX9) (ref := RX9) (T := TX9) (N := 49) (ci := 9) (j := 33) rfl inX9 (by decide) (by rw [hy]; exact w_867) rfl hdg he hv kk
theorem p_X9_99 {a : Nat} {fs : List Value} {v : Value} {w2 : VW} (hy : y.cls = RX9) (hini : y.name = "<init>") (hdg : decode cc pc = .ok (.putfield 99, 3)) (he : w[a]? = some (.inr (9, fs))) (hl0 : 33 < fs.length) (hn : narrow (tyX9 33) v = v) (hf : fits (tyX9 33) v = true) (hw : w.set a (.inr (9, fs.set 33 v)) = w2) (kk : R G l y cc nL ret d mc ms Q (pc + 3) lv st w2 k n) : R G l y cc nL ret d mc ms Q pc lv (v :: .ref a :: st) w k n := R_putF (C := RX9) (ref := RX9) (T := TX9) (ty0 := tyX9) (N := 49) (ci := 9) (j := 33) rfl inX9 tyX9_ok nmX9 (by decide) (by rw [hy]; exact w_867) rfl rfl (by rw [hy]; rfl) hini hn hf hdg he hl0 (by rw [hw]; exact kk)
theorem g_X9_232 {a : Nat} {fs : List Value} {v : Value} (hy : y.cls = RX9) (hdg : decode cc pc = .ok (.getfield 232, 3)) (he : w[a]? = some (.inr (9, fs))) (hv : fs[34]? = some v) (kk : R G l y cc nL ret d mc ms Q (pc + 3) lv (v :: st) w k n) : R G l y cc nL ret d mc ms Q pc lv (.ref a :: st) w k n := R_get (C := RX9) (ref := RX9) (T := TX9) (N := 49) (ci := 9) (j := 34) rfl inX9 (by decide) (by rw [hy]; exact w_868) rfl hdg he hv kk
theorem p_X9_232 {a : Nat} {fs : List Value} {v : Value} {w2 : VW} (hy : y.cls = RX9) (hdg : decode cc pc = .ok (.putfield 232, 3)) (he : w[a]? = some (.inr (9, fs))) (hl0 : 34 < fs.length) (hn : narrow (tyX9 34) v = v) (hf : fits (tyX9 34) v = true) (hw : w.set a (.inr (9, fs.set 34 v)) = w2) (kk : R G l y cc nL ret d mc ms Q (pc + 3) lv st w2 k n) : R G l y cc nL ret d mc ms Q pc lv (v :: .ref a :: st) w k n := R_put (C := RX9) (ref := RX9) (T := TX9) (ty0 := tyX9) (N := 49) (ci := 9) (j := 34) rfl inX9 tyX9_ok nmX9 (by decide) (by rw [hy]; exact w_868) rfl rfl hn hf hdg he hl0 (by rw [hw]; exact kk)
theorem g_X9_102 {a : Nat} {fs : List Value} {v : Value} (hy : y.cls = RX9) (hdg : decode cc pc = .ok (.getfield 102, 3)) (he : w[a]? = some (.inr (9, fs))) (hv : fs[35]? = some v) (kk : R G l y cc nL ret d mc ms Q (pc + 3) lv (v :: st) w k n) : R G l y cc nL ret d mc ms Q pc lv (.ref a :: st) w k n := R_get (C := RX9) (ref := RX9) (T := TX9) (N := 49) (ci := 9) (j := 35) rfl inX9 (by decide) (by rw [hy]; exact w_869) rfl hdg he hv kk
theorem p_X9_102 {a : Nat} {fs : List Value} {v : Value} {w2 : VW} (hy : y.cls = RX9) (hini : y.name = "<init>") (hdg : decode cc pc = .ok (.putfield 102, 3)) (he : w[a]? = some (.inr (9, fs))) (hl0 : 35 < fs.length) (hn : narrow (tyX9 35) v = v) (hf : fits (tyX9 35) v = true) (hw : w.set a (.inr (9, fs.set 35 v)) = w2) (kk : R G l y cc nL ret d mc ms Q (pc + 3) lv st w2 k n) : R G l y cc nL ret d mc ms Q pc lv (v :: .ref a :: st) w k n := R_putF (C := RX9) (ref := RX9) (T := TX9) (ty0 := tyX9) (N := 49) (ci := 9) (j := 35) rfl inX9 tyX9_ok nmX9 (by decide) (by rw [hy]; exact w_869) rfl rfl (by rw [hy]; rfl) hini hn hf hdg he hl0 (by rw [hw]; exact kk)
theorem g_X9_105 {a : Nat} {fs : List Value} {v : Value} (hy : y.cls = RX9) (hdg : decode cc pc = .ok (.getfield 105, 3)) (he : w[a]? = some (.inr (9, fs))) (hv : fs[36]? = some v) (kk : R G l y cc nL ret d mc ms Q (pc + 3) lv (v :: st) w k n) : R G l y cc nL ret d mc ms Q pc lv (.ref a :: st) w k n := R_get (C := RX9) (ref := RX9) (T := TX9) (N := 49) (ci := 9) (j := 36) rfl inX9 (by decide) (by rw [hy]; exact w_870) rfl hdg he hv kk
theorem p_X9_105 {a : Nat} {fs : List Value} {v : Value} {w2 : VW} (hy : y.cls = RX9) (hini : y.name = "<init>") (hdg : decode cc pc = .ok (.putfield 105, 3)) (he : w[a]? = some (.inr (9, fs))) (hl0 : 36 < fs.length) (hn : narrow (tyX9 36) v = v) (hf : fits (tyX9 36) v = true) (hw : w.set a (.inr (9, fs.set 36 v)) = w2) (kk : R G l y cc nL ret d mc ms Q (pc + 3) lv st w2 k n) : R G l y cc nL ret d mc ms Q pc lv (v :: .ref a :: st) w k n := R_putF (C := RX9) (ref := RX9) (T := TX9) (ty0 := tyX9) (N := 49) (ci := 9) (j := 36) rfl inX9 tyX9_ok nmX9 (by decide) (by rw [hy]; exact w_870) rfl rfl (by rw [hy]; rfl) hini hn hf hdg he hl0 (by rw [hw]; exact kk)
theorem g_X9_254 {a : Nat} {fs : List Value} {v : Value} (hy : y.cls = RX9) (hdg : decode cc pc = .ok (.getfield 254, 3)) (he : w[a]? = some (.inr (9, fs))) (hv : fs[37]? = some v) (kk : R G l y cc nL ret d mc ms Q (pc + 3) lv (v :: st) w k n) : R G l y cc nL ret d mc ms Q pc lv (.ref a :: st) w k n := R_get (C := RX9) (ref := RX9) (T := TX9) (N := 49) (ci := 9) (j := 37) rfl inX9 (by decide) (by rw [hy]; exact w_871) rfl hdg he hv kk
theorem p_X9_254 {a : Nat} {fs : List Value} {v : Value} {w2 : VW} (hy : y.cls = RX9) (hdg : decode cc pc = .ok (.putfield 254, 3)) (he : w[a]? = some (.inr (9, fs))) (hl0 : 37 < fs.length) (hn : narrow (tyX9 37) v = v) (hf : fits (tyX9 37) v = true) (hw : w.set a (.inr (9, fs.set 37 v)) = w2) (kk : R G l y cc nL ret d mc ms Q (pc + 3) lv st w2 k n) : R G l y cc nL ret d mc ms Q pc lv (v :: .ref a :: st) w k n := R_put (C := RX9) (ref := RX9) (T := TX9) (ty0 := tyX9) (N := 49) (ci := 9) (j := 37) rfl inX9 tyX9_ok nmX9 (by decide) (by rw [hy]; exact w_871) rfl rfl hn hf hdg he hl0 (by rw [hw]; exact kk)
theorem g_X9_108 {a : Nat} {fs : List Value} {v : Value} (hy : y.cls = RX9) (hdg : decode cc pc = .ok (.getfield 108, 3)) (he : w[a]? = some (.inr (9, fs))) (hv : fs[38]? = some v) (kk : R G l y cc nL ret d mc ms Q (pc + 3) lv (v :: st) w k n) : R G l y cc nL ret d mc ms Q pc lv (.ref a :: st) w k n := R_get (C := RX9) (ref := RX9) (T := TX9) (N := 49) (ci := 9) (j := 38) rfl inX9 (by decide) (by rw [hy]; exact w_872) rfl hdg he hv kk
theorem p_X9_108 {a : Nat} {fs : List Value} {v : Value} {w2 : VW} (hy : y.cls = RX9) (hini : y.name = "<init>") (hdg : decode cc pc = .ok (.putfield 108, 3)) (he : w[a]? = some (.inr (9, fs))) (hl0 : 38 < fs.length) (hn : narrow (tyX9 38) v = v) (hf : fits (tyX9 38) v = true) (hw : w.set a (.inr (9, fs.set 38 v)) = w2) (kk : R G l y cc nL ret d mc ms Q (pc + 3) lv st w2 k n) : R G l y cc nL ret d mc ms Q pc lv (v :: .ref a :: st) w k n := R_putF (C := RX9) (ref := RX9) (T := TX9) (ty0 := tyX9) (N := 49) (ci := 9) (j := 38) rfl inX9 tyX9_ok nmX9 (by decide) (by rw [hy]; exact w_872) rfl rfl (by rw [hy]; rfl) hini hn hf hdg he hl0 (by rw [hw]; exact kk)
theorem g_X9_257 {a : Nat} {fs : List Value} {v : Value} (hy : y.cls = RX9) (hdg : decode cc pc = .ok (.getfield 257, 3)) (he : w[a]? = some (.inr (9, fs))) (hv : fs[39]? = some v) (kk : R G l y cc nL ret d mc ms Q (pc + 3) lv (v :: st) w k n) : R G l y cc nL ret d mc ms Q pc lv (.ref a :: st) w k n := R_get (C := RX9) (ref := RX9) (T := TX9) (N := 49) (ci := 9) (j := 39) rfl inX9 (by decide) (by rw [hy]; exact w_873) rfl hdg he hv kk
theorem p_X9_257 {a : Nat} {fs : List Value} {v : Value} {w2 : VW} (hy : y.cls = RX9) (hdg : decode cc pc = .ok (.putfield 257, 3)) (he : w[a]? = some (.inr (9, fs))) (hl0 : 39 < fs.length) (hn : narrow (tyX9 39) v = v) (hf : fits (tyX9 39) v = true) (hw : w.set a (.inr (9, fs.set 39 v)) = w2) (kk : R G l y cc nL ret d mc ms Q (pc + 3) lv st w2 k n) : R G l y cc nL ret d mc ms Q pc lv (v :: .ref a :: st) w k n := R_put (C := RX9) (ref := RX9) (T := TX9) (ty0 := tyX9) (N := 49) (ci := 9) (j := 39) rfl inX9 tyX9_ok nmX9 (by decide) (by rw [hy]; exact w_873) rfl rfl hn hf hdg he hl0 (by rw [hw]; exact kk)
theorem g_X9_260 {a : Nat} {fs : List Value} {v : Value} (hy : y.cls = RX9) (hdg : decode cc pc = .ok (.getfield 260, 3)) (he : w[a]? = some (.inr (9, fs))) (hv : fs[40]? = some v) (kk : R G l y cc nL ret d mc ms Q (pc + 3) lv (v :: st) w k n) : R G l y cc nL ret d mc ms Q pc lv (.ref a :: st) w k n := R_get (C := RX9) (ref := RX9) (T := TX9) (N := 49) (ci := 9) (j := 40) rfl inX9 (by decide) (by rw [hy]; exact w_874) rfl hdg he hv kk
theorem p_X9_260 {a : Nat} {fs : List Value} {v : Value} {w2 : VW} (hy : y.cls = RX9) (hdg : decode cc pc = .ok (.putfield 260, 3)) (he : w[a]? = some (.inr (9, fs))) (hl0 : 40 < fs.length) (hn : narrow (tyX9 40) v = v) (hf : fits (tyX9 40) v = true) (hw : w.set a (.inr (9, fs.set 40 v)) = w2) (kk : R G l y cc nL ret d mc ms Q (pc + 3) lv st w2 k n) : R G l y cc nL ret d mc ms Q pc lv (v :: .ref a :: st) w k n := R_put (C := RX9) (ref := RX9) (T := TX9) (ty0 := tyX9) (N := 49) (ci := 9) (j := 40) rfl inX9 tyX9_ok nmX9 (by decide) (by rw [hy]; exact w_874) rfl rfl hn hf hdg he hl0 (by rw [hw]; exact kk)
theorem g_X9_271 {a : Nat} {fs : List Value} {v : Value} (hy : y.cls = RX9) (hdg : decode cc pc = .ok (.getfield 271, 3)) (he : w[a]? = some (.inr (9, fs))) (hv : fs[41]? = some v) (kk : R G l y cc nL ret d mc ms Q (pc + 3) lv (v :: st) w k n) : R G l y cc nL ret d mc ms Q pc lv (.ref a :: st) w k n := R_get (C := RX9) (ref := RX9) (T := TX9) (N := 49) (ci := 9) (j := 41) rfl inX9 (by decide) (by rw [hy]; exact w_875) rfl hdg he hv kk
theorem p_X9_271 {a : Nat} {fs : List Value} {v : Value} {w2 : VW} (hy : y.cls = RX9) (hdg : decode cc pc = .ok (.putfield 271, 3)) (he : w[a]? = some (.inr (9, fs))) (hl0 : 41 < fs.length) (hn : narrow (tyX9 41) v = v) (hf : fits (tyX9 41) v = true) (hw : w.set a (.inr (9, fs.set 41 v)) = w2) (kk : R G l y cc nL ret d mc ms Q (pc + 3) lv st w2 k n) : R G l y cc nL ret d mc ms Q pc lv (v :: .ref a :: st) w k n := R_put (C := RX9) (ref := RX9) (T := TX9) (ty0 := tyX9) (N := 49) (ci := 9) (j := 41) rfl inX9 tyX9_ok nmX9 (by decide) (by rw [hy]; exact w_875) rfl rfl hn hf hdg he hl0 (by rw [hw]; exact kk)
theorem g_X9_263 {a : Nat} {fs : List Value} {v : Value} (hy : y.cls = RX9) (hdg : decode cc pc = .ok (.getfield 263, 3)) (he : w[a]? = some (.inr (9, fs))) (hv : fs[42]? = some v) (kk : R G l y cc nL ret d mc ms Q (pc + 3) lv (v :: st) w k n) : R G l y cc nL ret d mc ms Q pc lv (.ref a :: st) w k n := R_get (C := RX9) (ref := RX9) (T := TX9) (N := 49) (ci := 9) (j := 42) rfl inX9 (by decide) (by rw [hy]; exact w_876) rfl hdg he hv kk
theorem p_X9_263 {a : Nat} {fs : List Value} {v : Value} {w2 : VW} (hy : y.cls = RX9) (hdg : decode cc pc = .ok (.putfield 263, 3)) (he : w[a]? = some (.inr (9, fs))) (hl0 : 42 < fs.length) (hn : narrow (tyX9 42) v = v) (hf : fits (tyX9 42) v = true) (hw : w.set a (.inr (9, fs.set 42 v)) = w2) (kk : R G l y cc nL ret d mc ms Q (pc + 3) lv st w2 k n) : R G l y cc nL ret d mc ms Q pc lv (v :: .ref a :: st) w k n := R_put (C := RX9) (ref := RX9) (T := TX9) (ty0 := tyX9) (N := 49) (ci := 9) (j := 42) rfl inX9 tyX9_ok nmX9 (by decide) (by rw [hy]; exact w_876) rfl rfl hn hf hdg he hl0 (by rw [hw]; exact kk)
theorem g_X9_266 {a : Nat} {fs : List Value} {v : Value} (hy : y.cls = RX9) (hdg : decode cc pc = .ok (.getfield 266, 3)) (he : w[a]? = some (.inr (9, fs))) (hv : fs[43]? = some v) (kk : R G l y cc nL ret d mc ms Q (pc + 3) lv (v :: st) w k n) : R G l y cc nL ret d mc ms Q pc lv (.ref a :: st) w k n := R_get (C := RX9) (ref := RX9) (T := TX9) (N := 49) (ci := 9) (j := 43) rfl inX9 (by decide) (by rw [hy]; exact w_877) rfl hdg he hv kk
theorem p_X9_266 {a : Nat} {fs : List Value} {v : Value} {w2 : VW} (hy : y.cls = RX9) (hdg : decode cc pc = .ok (.putfield 266, 3)) (he : w[a]? = some (.inr (9, fs))) (hl0 : 43 < fs.length) (hn : narrow (tyX9 43) v = v) (hf : fits (tyX9 43) v = true) (hw : w.set a (.inr (9, fs.set 43 v)) = w2) (kk : R G l y cc nL ret d mc ms Q (pc + 3) lv st w2 k n) : R G l y cc nL ret d mc ms Q pc lv (v :: .ref a :: st) w k n := R_put (C := RX9) (ref := RX9) (T := TX9) (ty0 := tyX9) (N := 49) (ci := 9) (j := 43) rfl inX9 tyX9_ok nmX9 (by decide) (by rw [hy]; exact w_877) rfl rfl hn hf hdg he hl0 (by rw [hw]; exact kk)
theorem g_X9_282 {a : Nat} {fs : List Value} {v : Value} (hy : y.cls = RX9) (hdg : decode cc pc = .ok (.getfield 282, 3)) (he : w[a]? = some (.inr (9, fs))) (hv : fs[44]? = some v) (kk : R G l y cc nL ret d mc ms Q (pc + 3) lv (v :: st) w k n) : R G l y cc nL ret d mc ms Q pc lv (.ref a :: st) w k n := R_get (C := RX9) (ref := RX9) (T := TX9) (N := 49) (ci := 9) (j := 44) rfl inX9 (by decide) (by rw [hy]; exact w_878) rfl hdg he hv kk
theorem p_X9_282 {a : Nat} {fs : List Value} {v : Value} {w2 : VW} (hy : y.cls = RX9) (hdg : decode cc pc = .ok (.putfield 282, 3)) (he : w[a]? = some (.inr (9, fs))) (hl0 : 44 < fs.length) (hn : narrow (tyX9 44) v = v) (hf : fits (tyX9 44) v = true) (hw : w.set a (.inr (9, fs.set 44 v)) = w2) (kk : R G l y cc nL ret d mc ms Q (pc + 3) lv st w2 k n) : R G l y cc nL ret d mc ms Q pc lv (v :: .ref a :: st) w k n := R_put (C := RX9) (ref := RX9) (T := TX9) (ty0 := tyX9) (N := 49) (ci := 9) (j := 44) rfl inX9 tyX9_ok nmX9 (by decide) (by rw [hy]; exact w_878) rfl rfl hn hf hdg he hl0 (by rw [hw]; exact kk)
theorem g_X9_309 {a : Nat} {fs : List Value} {v : Value} (hy : y.cls = RX9) (hdg : decode cc pc = .ok (.getfield 309, 3)) (he : w[a]? = some (.inr (9, fs))) (hv : fs[45]? = some v) (kk : R G l y cc nL ret d mc ms Q (pc + 3) lv (v :: st) w k n) : R G l y cc nL ret d mc ms Q pc lv (.ref a :: st) w k n := R_get (C := RX9) (ref := RX9) (T := TX9) (N := 49) (ci := 9) (j := 45) rfl inX9 (by decide) (by rw [hy]; exact w_879) rfl hdg he hv kk
theorem p_X9_309 {a : Nat} {fs : List Value} {v : Value} {w2 : VW} (hy : y.cls = RX9) (hdg : decode cc pc = .ok (.putfield 309, 3)) (he : w[a]? = some (.inr (9, fs))) (hl0 : 45 < fs.length) (hn : narrow (tyX9 45) v = v) (hf : fits (tyX9 45) v = true) (hw : w.set a (.inr (9, fs.set 45 v)) = w2) (kk : R G l y cc nL ret d mc ms Q (pc + 3) lv st w2 k n) : R G l y cc nL ret d mc ms Q pc lv (v :: .ref a :: st) w k n := R_put (C := RX9) (ref := RX9) (T := TX9) (ty0 := tyX9) (N := 49) (ci := 9) (j := 45) rfl inX9 tyX9_ok nmX9 (by decide) (by rw [hy]; exact w_879) rfl rfl hn hf hdg he hl0 (by rw [hw]; exact kk)
theorem g_X9_111 {a : Nat} {fs : List Value} {v : Value} (hy : y.cls = RX9) (hdg : decode cc pc = .ok (.getfield 111, 3)) (he : w[a]? = some (.inr (9, fs))) (hv : fs[46]? = some v) (kk : R G l y cc nL ret d mc ms Q (pc + 3) lv (v :: st) w k n) : R G l y cc nL ret d mc ms Q pc lv (.ref a :: st) w k n := R_get (C := RX9) (ref := RX9) (T := TX9) (N := 49) (ci := 9) (j := 46) rfl inX9 (by decide) (by rw [hy]; exact w_880) rfl hdg he hv kk
theorem p_X9_111 {a : Nat} {fs : List Value} {v : Value} {w2 : VW} (hy : y.cls = RX9) (hini : y.name = "<init>") (hdg : decode cc pc = .ok (.putfield 111, 3)) (he : w[a]? = some (.inr (9, fs))) (hl0 : 46 < fs.length) (hn : narrow (tyX9 46) v = v) (hf : fits (tyX9 46) v = true) (hw : w.set a (.inr (9, fs.set 46 v)) = w2) (kk : R G l y cc nL ret d mc ms Q (pc + 3) lv st w2 k n) : R G l y cc nL ret d mc ms Q pc lv (v :: .ref a :: st) w k n := R_putF (C := RX9) (ref := RX9) (T := TX9) (ty0 := tyX9) (N := 49) (ci := 9) (j := 46) rfl inX9 tyX9_ok nmX9 (by decide) (by rw [hy]; exact w_880) rfl rfl (by rw [hy]; rfl) hini hn hf hdg he hl0 (by rw [hw]; exact kk)
theorem g_X9_215 {a : Nat} {fs : List Value} {v : Value} (hy : y.cls = RX9) (hdg : decode cc pc = .ok (.getfield 215, 3)) (he : w[a]? = some (.inr (9, fs))) (hv : fs[47]? = some v) (kk : R G l y cc nL ret d mc ms Q (pc + 3) lv (v :: st) w k n) : R G l y cc nL ret d mc ms Q pc lv (.ref a :: st) w k n := R_get (C := RX9) (ref := RX9) (T := TX9) (N := 49) (ci := 9) (j := 47) rfl inX9 (by decide) (by rw [hy]; exact w_881) rfl hdg he hv kk
theorem p_X9_215 {a : Nat} {fs : List Value} {v : Value} {w2 : VW} (hy : y.cls = RX9) (hdg : decode cc pc = .ok (.putfield 215, 3)) (he : w[a]? = some (.inr (9, fs))) (hl0 : 47 < fs.length) (hn : narrow (tyX9 47) v = v) (hf : fits (tyX9 47) v = true) (hw : w.set a (.inr (9, fs.set 47 v)) = w2) (kk : R G l y cc nL ret d mc ms Q (pc + 3) lv st w2 k n) : R G l y cc nL ret d mc ms Q pc lv (v :: .ref a :: st) w k n := R_put (C := RX9) (ref := RX9) (T := TX9) (ty0 := tyX9) (N := 49) (ci := 9) (j := 47) rfl inX9 tyX9_ok nmX9 (by decide) (by rw [hy]; exact w_881) rfl rfl hn hf hdg he hl0 (by rw [hw]; exact kk)
theorem g_X9_114 {a : Nat} {fs : List Value} {v : Value} (hy : y.cls = RX9) (hdg : decode cc pc = .ok (.getfield 114, 3)) (he : w[a]? = some (.inr (9, fs))) (hv : fs[48]? = some v) (kk : R G l y cc nL ret d mc ms Q (pc + 3) lv (v :: st) w k n) : R G l y cc nL ret d mc ms Q pc lv (.ref a :: st) w k n := R_get (C := RX9) (ref := RX9) (T := TX9) (N := 49) (ci := 9) (j := 48) rfl inX9 (by decide) (by rw [hy]; exact w_882) rfl hdg he hv kk
theorem p_X9_114 {a : Nat} {fs : List Value} {v : Value} {w2 : VW} (hy : y.cls = RX9) (hini : y.name = "<init>") (hdg : decode cc pc = .ok (.putfield 114, 3)) (he : w[a]? = some (.inr (9, fs))) (hl0 : 48 < fs.length) (hn : narrow (tyX9 48) v = v) (hf : fits (tyX9 48) v = true) (hw : w.set a (.inr (9, fs.set 48 v)) = w2) (kk : R G l y cc nL ret d mc ms Q (pc + 3) lv st w2 k n) : R G l y cc nL ret d mc ms Q pc lv (v :: .ref a :: st) w k n := R_putF (C := RX9) (ref := RX9) (T := TX9) (ty0 := tyX9) (N := 49) (ci := 9) (j := 48) rfl inX9 tyX9_ok nmX9 (by decide) (by rw [hy]; exact w_882) rfl rfl (by rw [hy]; rfl) hini hn hf hdg he hl0 (by rw [hw]; exact kk)
theorem k_L_9 {b : Nat} {d2 mc2 ms2 : Nat} {post : VW → Prop} (hM : Sp G l yX8_init cX8_init 1 none d2 mc2 ms2 [.ref b] w (QV post)) (hy : y.cls = "ViewCardsLaw") (hdl : d2 < d) (hk : k + mc2 ≤ mc) (hn : n + ms2 ≤ ms) (hst : (st.map fun v => v.category).sum ≤ 8) (hdg : decode cc pc = .ok (.invokespecial 9, 3)) (kk : ∀ (w2 : VW), post w2 → R G l y cc nL ret d mc ms Q (pc + 3) lv st w2 (k + mc2) (n + ms2)) : R G l y cc nL ret d mc ms Q pc lv (.ref b :: st) w k n := R_callI (as := []) hM w_22 (by rw [hy]; exact w_20) w_21 w_1 rfl ⟨by decide, by decide, by rfl⟩ hdl (by decide) hk hn hst hdg (fun r w2 h => by obtain ⟨rfl, h⟩ := h; exact kk w2 h)
theorem k_X8_18 {v0 : Value} {b : Nat} {d2 mc2 ms2 : Nat} {post : VW → Prop} (hM : Sp G l yX3_init cX3_init 2 none d2 mc2 ms2 [.ref b, v0] w (QV post)) (hy : y.cls = RX8) (hdl : d2 < d) (hk : k + mc2 ≤ mc) (hn : n + ms2 ≤ ms) (hst : (st.map fun v => v.category).sum ≤ 8) (hdg : decode cc pc = .ok (.invokespecial 18, 3)) (kk : ∀ (w2 : VW), post w2 → R G l y cc nL ret d mc ms Q (pc + 3) lv st w2 (k + mc2) (n + ms2)) : R G l y cc nL ret d mc ms Q pc lv (v0 :: .ref b :: st) w k n := R_callI (as := [v0]) hM w_102 (by rw [hy]; exact w_100) w_101 w_3 rfl ⟨by decide, by decide, by rfl⟩ hdl (by decide) hk hn hst hdg (fun r w2 h => by obtain ⟨rfl, h⟩ := h; exact kk w2 h)
theorem k_X8_27 {v0 : Value} {b : Nat} {d2 mc2 ms2 : Nat} {post : VW → Prop} (hM : Sp G l yX5_init cX5_init 2 none d2 mc2 ms2 [.ref b, v0] w (QV post)) (hy : y.cls = RX8) (hdl : d2 < d) (hk : k + mc2 ≤ mc) (hn : n + ms2 ≤ ms) (hst : (st.map fun v => v.category).sum ≤ 8) (hdg : decode cc pc = .ok (.invokespecial 27, 3)) (kk : ∀ (w2 : VW), post w2 → R G l y cc nL ret d mc ms Q (pc + 3) lv st w2 (k + mc2) (n + ms2)) : R G l y cc nL ret d mc ms Q pc lv (v0 :: .ref b :: st) w k n := R_callI (as := [v0]) hM w_129 (by rw [hy]; exact w_127) w_128 w_4 rfl ⟨by decide, by decide, by rfl⟩ hdl (by decide) hk hn hst hdg (fun r w2 h => by obtain ⟨rfl, h⟩ := h; exact kk w2 h)
theorem k_X8_34 {v0 v1 : Value} {b : Nat} {d2 mc2 ms2 : Nat} {post : VW → Prop} (hM : Sp G l yX1_init cX1_init 5 none d2 mc2 ms2 [.ref b, v0, v1] w (QV post)) (hy : y.cls = RX8) (hdl : d2 < d) (hk : k + mc2 ≤ mc) (hn : n + ms2 ≤ ms) (hst : (st.map fun v => v.category).sum ≤ 8) (hdg : decode cc pc = .ok (.invokespecial 34, 3)) (kk : ∀ (w2 : VW), post w2 → R G l y cc nL ret d mc ms Q (pc + 3) lv st w2 (k + mc2) (n + ms2)) : R G l y cc nL ret d mc ms Q pc lv (v1 :: v0 :: .ref b :: st) w k n := R_callI (as := [v0, v1]) hM w_155 (by rw [hy]; exact w_153) w_154 w_5 rfl ⟨by decide, by decide, by rfl⟩ hdl (by decide) hk hn hst hdg (fun r w2 h => by obtain ⟨rfl, h⟩ := h; exact kk w2 h)
theorem k_X8_43 {b : Nat} {d2 mc2 ms2 : Nat} {post : VW → Prop} (hM : Sp G l yX2_init cX2_init 2 none d2 mc2 ms2 [.ref b] w (QV post)) (hy : y.cls = RX8) (hdl : d2 < d) (hk : k + mc2 ≤ mc) (hn : n + ms2 ≤ ms) (hst : (st.map fun v => v.category).sum ≤ 8) (hdg : decode cc pc = .ok (.invokespecial 43, 3)) (kk : ∀ (w2 : VW), post w2 → R G l y cc nL ret d mc ms Q (pc + 3) lv st w2 (k + mc2) (n + ms2)) : R G l y cc nL ret d mc ms Q pc lv (.ref b :: st) w k n := R_callI (as := []) hM w_234 (by rw [hy]; exact w_232) w_233 w_7 rfl ⟨by decide, by decide, by rfl⟩ hdl (by decide) hk hn hst hdg (fun r w2 h => by obtain ⟨rfl, h⟩ := h; exact kk w2 h)
theorem k_L_15 {v0 v1 v2 v3 v4 v5 v6 : Value} {b : Nat} {d2 mc2 ms2 : Nat} {post : Int32 → VW → Prop} {fs : List Value} (hM : Sp G l yX8_card cX8_card 10 (some .int) d2 mc2 ms2 [.ref b, v0, v1, v2, v3, v4, v5, v6] w (QI post)) (hy : y.cls = "ViewCardsLaw") (he : w[b]? = some (.inr (8, fs))) (hdl : d2 < d) (hk : k + mc2 ≤ mc) (hn : n + ms2 ≤ ms) (hst : (st.map fun v => v.category).sum ≤ 8) (hdg : decode cc pc = .ok (.invokevirtual 15, 3)) (kk : ∀ (x : Int32) (w2 : VW), post x w2 → R G l y cc nL ret d mc ms Q (pc + 3) lv (.int x :: st) w2 (k + mc2) (n + ms2)) : R G l y cc nL ret d mc ms Q pc lv (v6 :: v5 :: v4 :: v3 :: v2 :: v1 :: v0 :: .ref b :: st) w k n := R_callV (as := [v0, v1, v2, v3, v4, v5, v6]) (ci := 8) hM w_354 (by rw [hy]; exact w_351) w_352 w_353 w_1 ⟨by decide, by decide, by rfl⟩ hdl (by decide) hk hn hst rfl rfl he hdg (fun r w2 h => by obtain ⟨x, rfl, h⟩ := h; exact kk x w2 h)
theorem k_X8_72 {v0 v1 v2 : Value} {d2 mc2 ms2 : Nat} {post : Int32 → VW → Prop} (hM : Sp G l yX8_isWithin cX8_isWithin 3 (some .boolean) d2 mc2 ms2 [v0, v1, v2] w (QI post)) (hy : y.cls = RX8) (hdl : d2 < d) (hk : k + mc2 ≤ mc) (hn : n + ms2 ≤ ms) (hst : (st.map fun v => v.category).sum ≤ 8) (hdg : decode cc pc = .ok (.invokestatic 72, 3)) (kk : ∀ (x : Int32) (w2 : VW), post x w2 → R G l y cc nL ret d mc ms Q (pc + 3) lv (.int x :: st) w2 (k + mc2) (n + ms2)) : R G l y cc nL ret d mc ms Q pc lv (v2 :: v1 :: v0 :: st) w k n := R_callS (as := [v0, v1, v2]) hM w_357 (by rw [hy]; exact w_355) w_356 w_1 ⟨by decide, by decide, by rfl⟩ hdl (by decide) hk hn hst hdg (fun r w2 h => by obtain ⟨x, rfl, h⟩ := h; exact kk x w2 h)
theorem k_X8_79 {v0 v1 v2 v3 v4 v5 v6 : Value} {b : Nat} {d2 mc2 ms2 : Nat} {post : VW → Prop} {fs : List Value} (hM : Sp G l yX0_tell cX0_tell 9 none d2 mc2 ms2 [.ref b, v0, v1, v2, v3, v4, v5, v6] w (QV post)) (hy : y.cls = RX8) (he : w[b]? = some (.inr (0, fs))) (hdl : d2 < d) (hk : k + mc2 ≤ mc) (hn : n + ms2 ≤ ms) (hst : (st.map fun v => v.category).sum ≤ 8) (hdg : decode cc pc = .ok (.invokevirtual 79, 3)) (kk : ∀ (w2 : VW), post w2 → R G l y cc nL ret d mc ms Q (pc + 3) lv st w2 (k + mc2) (n + ms2)) : R G l y cc nL ret d mc ms Q pc lv (v6 :: v5 :: v4 :: v3 :: v2 :: v1 :: v0 :: .ref b :: st) w k n := R_callV (as := [v0, v1, v2, v3, v4, v5, v6]) (ci := 0) hM w_361 (by rw [hy]; exact w_358) w_359 w_360 w_2 ⟨by decide, by decide, by rfl⟩ hdl (by decide) hk hn hst rfl rfl he hdg (fun r w2 h => by obtain ⟨rfl, h⟩ := h; exact kk w2 h)
theorem k_X8_83 {v0 : Value} {b : Nat} {d2 mc2 ms2 : Nat} {post : VW → Prop} {fs : List Value} (hM : Sp G l yX3_comparePicture cX3_comparePicture 4 none d2 mc2 ms2 [.ref b, v0] w (QV post)) (hy : y.cls = RX8) (he : w[b]? = some (.inr (3, fs))) (hdl : d2 < d) (hk : k + mc2 ≤ mc) (hn : n + ms2 ≤ ms) (hst : (st.map fun v => v.category).sum ≤ 8) (hdg : decode cc pc = .ok (.invokevirtual 83, 3)) (kk : ∀ (w2 : VW), post w2 → R G l y cc nL ret d mc ms Q (pc + 3) lv st w2 (k + mc2) (n + ms2)) : R G l y cc nL ret d mc ms Q pc lv (v0 :: .ref b :: st) w k n := R_callV (as := [v0]) (ci := 3) hM w_365 (by rw [hy]; exact w_362) w_363 w_364 w_3 ⟨by decide, by decide, by rfl⟩ hdl (by decide) hk hn hst rfl rfl he hdg (fun r w2 h => by obtain ⟨rfl, h⟩ := h; exact kk w2 h)
theorem k_X3_36 {v0 v1 : Value} {b : Nat} {d2 mc2 ms2 : Nat} {post : Int32 → VW → Prop} {fs : List Value} (hM : Sp G l yX3_fewestOtherwise cX3_fewestOtherwise 11 (some .int) d2 mc2 ms2 [.ref b, v0, v1] w (QI post)) (hy : y.cls = RX3) (he : w[b]? = some (.inr (3, fs))) (hdl : d2 < d) (hk : k + mc2 ≤ mc) (hn : n + ms2 ≤ ms) (hst : (st.map fun v => v.category).sum ≤ 8) (hdg : decode cc pc = .ok (.invokevirtual 36, 3)) (kk : ∀ (x : Int32) (w2 : VW), post x w2 → R G l y cc nL ret d mc ms Q (pc + 3) lv (.int x :: st) w2 (k + mc2) (n + ms2)) : R G l y cc nL ret d mc ms Q pc lv (v1 :: v0 :: .ref b :: st) w k n := R_callV (as := [v0, v1]) (ci := 3) hM w_369 (by rw [hy]; exact w_366) w_368 ws_0 w_3 ⟨by decide, by decide, by rfl⟩ hdl (by decide) hk hn hst rfl rfl he hdg (fun r w2 h => by obtain ⟨x, rfl, h⟩ := h; exact kk x w2 h)
theorem k_X3_43 {v0 v1 v2 v3 : Value} {d2 mc2 ms2 : Nat} {post : Int64 → VW → Prop} (hM : Sp G l yX3_cellsInBoth cX3_cellsInBoth 11 (some .long) d2 mc2 ms2 [v0, v1, v2, v3] w (QL post)) (hy : y.cls = RX3) (hdl : d2 < d) (hk : k + mc2 ≤ mc) (hn : n + ms2 ≤ ms) (hst : (st.map fun v => v.category).sum ≤ 8) (hdg : decode cc pc = .ok (.invokestatic 43, 3)) (kk : ∀ (x : Int64) (w2 : VW), post x w2 → R G l y cc nL ret d mc ms Q (pc + 3) lv (.long x :: st) w2 (k + mc2) (n + ms2)) : R G l y cc nL ret d mc ms Q pc lv (v3 :: v2 :: v1 :: v0 :: st) w k n := R_callS (as := [v0, v1, v2, v3]) hM w_372 (by rw [hy]; exact w_370) w_371 w_3 ⟨by decide, by decide, by rfl⟩ hdl (by decide) hk hn hst hdg (fun r w2 h => by obtain ⟨x, rfl, h⟩ := h; exact kk x w2 h)
theorem k_X3_47 {v0 : Value} {d2 mc2 ms2 : Nat} {post : Int32 → VW → Prop} (hM : Sp G l yJ13_bitCount_95d88 cJ13_bitCount_95d88 2 (some .int) d2 mc2 ms2 [v0] w (QI post)) (hy : y.cls = RX3) (hdl : d2 < d) (hk : k + mc2 ≤ mc) (hn : n + ms2 ≤ ms) (hst : (st.map fun v => v.category).sum ≤ 8) (hdg : decode cc pc = .ok (.invokestatic 47, 3)) (kk : ∀ (x : Int32) (w2 : VW), post x w2 → R G l y cc nL ret d mc ms Q (pc + 3) lv (.int x :: st) w2 (k + mc2) (n + ms2)) : R G l y cc nL ret d mc ms Q pc lv (v0 :: st) w k n := R_callS (as := [v0]) hM w_381 (by rw [hy]; exact w_379) w_380 w_12 ⟨by decide, by decide, by rfl⟩ hdl (by decide) hk hn hst hdg (fun r w2 h => by obtain ⟨x, rfl, h⟩ := h; exact kk x w2 h)
theorem k_X3_57 {v0 v1 : Value} {d2 mc2 ms2 : Nat} {post : Int64 → VW → Prop} (hM : Sp G l yX3_moved cX3_moved 3 (some .long) d2 mc2 ms2 [v0, v1] w (QL post)) (hy : y.cls = RX3) (hdl : d2 < d) (hk : k + mc2 ≤ mc) (hn : n + ms2 ≤ ms) (hst : (st.map fun v => v.category).sum ≤ 8) (hdg : decode cc pc = .ok (.invokestatic 57, 3)) (kk : ∀ (x : Int64) (w2 : VW), post x w2 → R G l y cc nL ret d mc ms Q (pc + 3) lv (.long x :: st) w2 (k + mc2) (n + ms2)) : R G l y cc nL ret d mc ms Q pc lv (v1 :: v0 :: st) w k n := R_callS (as := [v0, v1]) hM w_387 (by rw [hy]; exact w_385) w_386 w_3 ⟨by decide, by decide, by rfl⟩ hdl (by decide) hk hn hst hdg (fun r w2 h => by obtain ⟨x, rfl, h⟩ := h; exact kk x w2 h)
theorem k_X8_87 {v0 : Value} {b : Nat} {d2 mc2 ms2 : Nat} {post : VW → Prop} {fs : List Value} (hM : Sp G l yX3_compareWord cX3_compareWord 4 none d2 mc2 ms2 [.ref b, v0] w (QV post)) (hy : y.cls = RX8) (he : w[b]? = some (.inr (3, fs))) (hdl : d2 < d) (hk : k + mc2 ≤ mc) (hn : n + ms2 ≤ ms) (hst : (st.map fun v => v.category).sum ≤ 8) (hdg : decode cc pc = .ok (.invokevirtual 87, 3)) (kk : ∀ (w2 : VW), post w2 → R G l y cc nL ret d mc ms Q (pc + 3) lv st w2 (k + mc2) (n + ms2)) : R G l y cc nL ret d mc ms Q pc lv (v0 :: .ref b :: st) w k n := R_callV (as := [v0]) (ci := 3) hM w_391 (by rw [hy]; exact w_388) w_389 w_390 w_3 ⟨by decide, by decide, by rfl⟩ hdl (by decide) hk hn hst rfl rfl he hdg (fun r w2 h => by obtain ⟨rfl, h⟩ := h; exact kk w2 h)
theorem k_X3_69 {v0 v1 : Value} {b : Nat} {d2 mc2 ms2 : Nat} {post : Int32 → VW → Prop} {fs : List Value} (hM : Sp G l yX3_fewestChanges cX3_fewestChanges 10 (some .int) d2 mc2 ms2 [.ref b, v0, v1] w (QI post)) (hy : y.cls = RX3) (he : w[b]? = some (.inr (3, fs))) (hdl : d2 < d) (hk : k + mc2 ≤ mc) (hn : n + ms2 ≤ ms) (hst : (st.map fun v => v.category).sum ≤ 8) (hdg : decode cc pc = .ok (.invokevirtual 69, 3)) (kk : ∀ (x : Int32) (w2 : VW), post x w2 → R G l y cc nL ret d mc ms Q (pc + 3) lv (.int x :: st) w2 (k + mc2) (n + ms2)) : R G l y cc nL ret d mc ms Q pc lv (v1 :: v0 :: .ref b :: st) w k n := R_callV (as := [v0, v1]) (ci := 3) hM w_395 (by rw [hy]; exact w_392) w_394 ws_1 w_3 ⟨by decide, by decide, by rfl⟩ hdl (by decide) hk hn hst rfl rfl he hdg (fun r w2 h => by obtain ⟨x, rfl, h⟩ := h; exact kk x w2 h)
theorem k_L_20 {v0 v1 v2 : Value} {b : Nat} {d2 mc2 ms2 : Nat} {post : Int32 → VW → Prop} {fs : List Value} (hM : Sp G l yX8_caption cX8_caption 6 (some .int) d2 mc2 ms2 [.ref b, v0, v1, v2] w (QI post)) (hy : y.cls = "ViewCardsLaw") (he : w[b]? = some (.inr (8, fs))) (hdl : d2 < d) (hk : k + mc2 ≤ mc) (hn : n + ms2 ≤ ms) (hst : (st.map fun v => v.category).sum ≤ 8) (hdg : decode cc pc = .ok (.invokevirtual 20, 3)) (kk : ∀ (x : Int32) (w2 : VW), post x w2 → R G l y cc nL ret d mc ms Q (pc + 3) lv (.int x :: st) w2 (k + mc2) (n + ms2)) : R G l y cc nL ret d mc ms Q pc lv (v2 :: v1 :: v0 :: .ref b :: st) w k n := R_callV (as := [v0, v1, v2]) (ci := 8) hM w_403 (by rw [hy]; exact w_400) w_401 w_402 w_1 ⟨by decide, by decide, by rfl⟩ hdl (by decide) hk hn hst rfl rfl he hdg (fun r w2 h => by obtain ⟨x, rfl, h⟩ := h; exact kk x w2 h)
theorem k_X8_90 {v0 : Value} {b : Nat} {d2 mc2 ms2 : Nat} {post : Int32 → VW → Prop} {fs : List Value} (hM : Sp G l yX0_isThere cX0_isThere 2 (some .boolean) d2 mc2 ms2 [.ref b, v0] w (QI post)) (hy : y.cls = RX8) (he : w[b]? = some (.inr (0, fs))) (hdl : d2 < d) (hk : k + mc2 ≤ mc) (hn : n + ms2 ≤ ms) (hst : (st.map fun v => v.category).sum ≤ 8) (hdg : decode cc pc = .ok (.invokevirtual 90, 3)) (kk : ∀ (x : Int32) (w2 : VW), post x w2 → R G l y cc nL ret d mc ms Q (pc + 3) lv (.int x :: st) w2 (k + mc2) (n + ms2)) : R G l y cc nL ret d mc ms Q pc lv (v0 :: .ref b :: st) w k n := R_callV (as := [v0]) (ci := 0) hM w_407 (by rw [hy]; exact w_404) w_405 w_406 w_2 ⟨by decide, by decide, by rfl⟩ hdl (by decide) hk hn hst rfl rfl he hdg (fun r w2 h => by obtain ⟨x, rfl, h⟩ := h; exact kk x w2 h)
theorem k_X8_94 {v0 v1 : Value} {d2 mc2 ms2 : Nat} {post : Int32 → VW → Prop} (hM : Sp G l yX8_byteOf cX8_byteOf 3 (some .int) d2 mc2 ms2 [v0, v1] w (QI post)) (hy : y.cls = RX8) (hdl : d2 < d) (hk : k + mc2 ≤ mc) (hn : n + ms2 ≤ ms) (hst : (st.map fun v => v.category).sum ≤ 8) (hdg : decode cc pc = .ok (.invokestatic 94, 3)) (kk : ∀ (x : Int32) (w2 : VW), post x w2 → R G l y cc nL ret d mc ms Q (pc + 3) lv (.int x :: st) w2 (k + mc2) (n + ms2)) : R G l y cc nL ret d mc ms Q pc lv (v1 :: v0 :: st) w k n := R_callS (as := [v0, v1]) hM w_398 (by rw [hy]; exact w_408) w_397 w_1 ⟨by decide, by decide, by rfl⟩ hdl (by decide) hk hn hst hdg (fun r w2 h => by obtain ⟨x, rfl, h⟩ := h; exact kk x w2 h)
theorem k_X8_98 {v0 : Value} {d2 mc2 ms2 : Nat} {post : Int32 → VW → Prop} (hM : Sp G l yX8_isLetter cX8_isLetter 1 (some .boolean) d2 mc2 ms2 [v0] w (QI post)) (hy : y.cls = RX8) (hdl : d2 < d) (hk : k + mc2 ≤ mc) (hn : n + ms2 ≤ ms) (hst : (st.map fun v => v.category).sum ≤ 8) (hdg : decode cc pc = .ok (.invokestatic 98, 3)) (kk : ∀ (x : Int32) (w2 : VW), post x w2 → R G l y cc nL ret d mc ms Q (pc + 3) lv (.int x :: st) w2 (k + mc2) (n + ms2)) : R G l y cc nL ret d mc ms Q pc lv (v0 :: st) w k n := R_callS (as := [v0]) hM w_411 (by rw [hy]; exact w_409) w_410 w_1 ⟨by decide, by decide, by rfl⟩ hdl (by decide) hk hn hst hdg (fun r w2 h => by obtain ⟨x, rfl, h⟩ := h; exact kk x w2 h)
theorem k_L_25 {v0 : Value} {b : Nat} {d2 mc2 ms2 : Nat} {post : Int32 → VW → Prop} {fs : List Value} (hM : Sp G l yX8_days cX8_days 2 (some .int) d2 mc2 ms2 [.ref b, v0] w (QI post)) (hy : y.cls = "ViewCardsLaw") (he : w[b]? = some (.inr (8, fs))) (hdl : d2 < d) (hk : k + mc2 ≤ mc) (hn : n + ms2 ≤ ms) (hst : (st.map fun v => v.category).sum ≤ 8) (hdg : decode cc pc = .ok (.invokevirtual 25, 3)) (kk : ∀ (x : Int32) (w2 : VW), post x w2 → R G l y cc nL ret d mc ms Q (pc + 3) lv (.int x :: st) w2 (k + mc2) (n + ms2)) : R G l y cc nL ret d mc ms Q pc lv (v0 :: .ref b :: st) w k n := R_callV (as := [v0]) (ci := 8) hM w_415 (by rw [hy]; exact w_412) w_413 w_414 w_1 ⟨by decide, by decide, by rfl⟩ hdl (by decide) hk hn hst rfl rfl he hdg (fun r w2 h => by obtain ⟨x, rfl, h⟩ := h; exact kk x w2 h)
theorem k_L_30 {v0 v1 : Value} {b : Nat} {d2 mc2 ms2 : Nat} {post : Int32 → VW → Prop} {fs : List Value} (hM : Sp G l yX8_set cX8_set 4 (some .int) d2 mc2 ms2 [.ref b, v0, v1] w (QI post)) (hy : y.cls = "ViewCardsLaw") (he : w[b]? = some (.inr (8, fs))) (hdl : d2 < d) (hk : k + mc2 ≤ mc) (hn : n + ms2 ≤ ms) (hst : (st.map fun v => v.category).sum ≤ 8) (hdg : decode cc pc = .ok (.invokevirtual 30, 3)) (kk : ∀ (x : Int32) (w2 : VW), post x w2 → R G l y cc nL ret d mc ms Q (pc + 3) lv (.int x :: st) w2 (k + mc2) (n + ms2)) : R G l y cc nL ret d mc ms Q pc lv (v1 :: v0 :: .ref b :: st) w k n := R_callV (as := [v0, v1]) (ci := 8) hM w_419 (by rw [hy]; exact w_416) w_417 w_418 w_1 ⟨by decide, by decide, by rfl⟩ hdl (by decide) hk hn hst rfl rfl he hdg (fun r w2 h => by obtain ⟨x, rfl, h⟩ := h; exact kk x w2 h)
theorem k_L_35 {v0 v1 : Value} {b : Nat} {d2 mc2 ms2 : Nat} {post : Int32 → VW → Prop} {fs : List Value} (hM : Sp G l yX8_difference cX8_difference 3 (some .int) d2 mc2 ms2 [.ref b, v0, v1] w (QI post)) (hy : y.cls = "ViewCardsLaw") (he : w[b]? = some (.inr (8, fs))) (hdl : d2 < d) (hk : k + mc2 ≤ mc) (hn : n + ms2 ≤ ms) (hst : (st.map fun v => v.category).sum ≤ 8) (hdg : decode cc pc = .ok (.invokevirtual 35, 3)) (kk : ∀ (x : Int32) (w2 : VW), post x w2 → R G l y cc nL ret d mc ms Q (pc + 3) lv (.int x :: st) w2 (k + mc2) (n + ms2)) : R G l y cc nL ret d mc ms Q pc lv (v1 :: v0 :: .ref b :: st) w k n := R_callV (as := [v0, v1]) (ci := 8) hM w_423 (by rw [hy]; exact w_420) w_421 w_422 w_1 ⟨by decide, by decide, by rfl⟩ hdl (by decide) hk hn hst rfl rfl he hdg (fun r w2 h => by obtain ⟨x, rfl, h⟩ := h; exact kk x w2 h)
theorem k_X8_118 {v0 v1 : Value} {b : Nat} {d2 mc2 ms2 : Nat} {post : Int32 → VW → Prop} {fs : List Value} (hM : Sp G l yX8_areTwoThere cX8_areTwoThere 3 (some .boolean) d2 mc2 ms2 [.ref b, v0, v1] w (QI post)) (hy : y.cls = RX8) (he : w[b]? = some (.inr (8, fs))) (hdl : d2 < d) (hk : k + mc2 ≤ mc) (hn : n + ms2 ≤ ms) (hst : (st.map fun v => v.category).sum ≤ 8) (hdg : decode cc pc = .ok (.invokevirtual 118, 3)) (kk : ∀ (x : Int32) (w2 : VW), post x w2 → R G l y cc nL ret d mc ms Q (pc + 3) lv (.int x :: st) w2 (k + mc2) (n + ms2)) : R G l y cc nL ret d mc ms Q pc lv (v1 :: v0 :: .ref b :: st) w k n := R_callV (as := [v0, v1]) (ci := 8) hM w_427 (by rw [hy]; exact w_424) w_426 ws_2 w_1 ⟨by decide, by decide, by rfl⟩ hdl (by decide) hk hn hst rfl rfl he hdg (fun r w2 h => by obtain ⟨x, rfl, h⟩ := h; exact kk x w2 h)
theorem k_L_39 {v0 : Value} {b : Nat} {d2 mc2 ms2 : Nat} {post : Int32 → VW → Prop} {fs : List Value} (hM : Sp G l yX8_negative cX8_negative 2 (some .int) d2 mc2 ms2 [.ref b, v0] w (QI post)) (hy : y.cls = "ViewCardsLaw") (he : w[b]? = some (.inr (8, fs))) (hdl : d2 < d) (hk : k + mc2 ≤ mc) (hn : n + ms2 ≤ ms) (hst : (st.map fun v => v.category).sum ≤ 8) (hdg : decode cc pc = .ok (.invokevirtual 39, 3)) (kk : ∀ (x : Int32) (w2 : VW), post x w2 → R G l y cc nL ret d mc ms Q (pc + 3) lv (.int x :: st) w2 (k + mc2) (n + ms2)) : R G l y cc nL ret d mc ms Q pc lv (v0 :: .ref b :: st) w k n := R_callV (as := [v0]) (ci := 8) hM w_431 (by rw [hy]; exact w_428) w_429 w_430 w_1 ⟨by decide, by decide, by rfl⟩ hdl (by decide) hk hn hst rfl rfl he hdg (fun r w2 h => by obtain ⟨x, rfl, h⟩ := h; exact kk x w2 h)
theorem k_X8_126 {b : Nat} {d2 mc2 ms2 : Nat} {post : Int32 → VW → Prop} {fs : List Value} (hM : Sp G l yX0_there cX0_there 3 (some .int) d2 mc2 ms2 [.ref b] w (QI post)) (hy : y.cls = RX8) (he : w[b]? = some (.inr (0, fs))) (hdl : d2 < d) (hk : k + mc2 ≤ mc) (hn : n + ms2 ≤ ms) (hst : (st.map fun v => v.category).sum ≤ 8) (hdg : decode cc pc = .ok (.invokevirtual 126, 3)) (kk : ∀ (x : Int32) (w2 : VW), post x w2 → R G l y cc nL ret d mc ms Q (pc + 3) lv (.int x :: st) w2 (k + mc2) (n + ms2)) : R G l y cc nL ret d mc ms Q pc lv (.ref b :: st) w k n := R_callV (as := []) (ci := 0) hM w_435 (by rw [hy]; exact w_432) w_433 w_434 w_2 ⟨by decide, by decide, by rfl⟩ hdl (by decide) hk hn hst rfl rfl he hdg (fun r w2 h => by obtain ⟨x, rfl, h⟩ := h; exact kk x w2 h)
theorem k_X0_53 {v0 : Value} {b : Nat} {d2 mc2 ms2 : Nat} {post : Int32 → VW → Prop} {fs : List Value} (hM : Sp G l yX0_isThere cX0_isThere 2 (some .boolean) d2 mc2 ms2 [.ref b, v0] w (QI post)) (hy : y.cls = RX0) (he : w[b]? = some (.inr (0, fs))) (hdl : d2 < d) (hk : k + mc2 ≤ mc) (hn : n + ms2 ≤ ms) (hst : (st.map fun v => v.category).sum ≤ 8) (hdg : decode cc pc = .ok (.invokevirtual 53, 3)) (kk : ∀ (x : Int32) (w2 : VW), post x w2 → R G l y cc nL ret d mc ms Q (pc + 3) lv (.int x :: st) w2 (k + mc2) (n + ms2)) : R G l y cc nL ret d mc ms Q pc lv (v0 :: .ref b :: st) w k n := R_callV (as := [v0]) (ci := 0) hM w_407 (by rw [hy]; exact w_436) w_405 w_406 w_2 ⟨by decide, by decide, by rfl⟩ hdl (by decide) hk hn hst rfl rfl he hdg (fun r w2 h => by obtain ⟨x, rfl, h⟩ := h; exact kk x w2 h)
theorem k_X8_130 {v0 v1 : Value} {b : Nat} {d2 mc2 ms2 : Nat} {post : Int32 → VW → Prop} {fs : List Value} (hM : Sp G l yX3_sameNegative cX3_sameNegative 3 (some .int) d2 mc2 ms2 [.ref b, v0, v1] w (QI post)) (hy : y.cls = RX8) (he : w[b]? = some (.inr (3, fs))) (hdl : d2 < d) (hk : k + mc2 ≤ mc) (hn : n + ms2 ≤ ms) (hst : (st.map fun v => v.category).sum ≤ 8) (hdg : decode cc pc = .ok (.invokevirtual 130, 3)) (kk : ∀ (x : Int32) (w2 : VW), post x w2 → R G l y cc nL ret d mc ms Q (pc + 3) lv (.int x :: st) w2 (k + mc2) (n + ms2)) : R G l y cc nL ret d mc ms Q pc lv (v1 :: v0 :: .ref b :: st) w k n := R_callV (as := [v0, v1]) (ci := 3) hM w_440 (by rw [hy]; exact w_437) w_438 w_439 w_3 ⟨by decide, by decide, by rfl⟩ hdl (by decide) hk hn hst rfl rfl he hdg (fun r w2 h => by obtain ⟨x, rfl, h⟩ := h; exact kk x w2 h)
theorem k_X3_98 {v0 v1 v2 : Value} {b : Nat} {d2 mc2 ms2 : Nat} {post : Int32 → VW → Prop} {fs : List Value} (hM : Sp G l yX3_chained cX3_chained 10 (some .int) d2 mc2 ms2 [.ref b, v0, v1, v2] w (QI post)) (hy : y.cls = RX3) (he : w[b]? = some (.inr (3, fs))) (hdl : d2 < d) (hk : k + mc2 ≤ mc) (hn : n + ms2 ≤ ms) (hst : (st.map fun v => v.category).sum ≤ 8) (hdg : decode cc pc = .ok (.invokevirtual 98, 3)) (kk : ∀ (x : Int32) (w2 : VW), post x w2 → R G l y cc nL ret d mc ms Q (pc + 3) lv (.int x :: st) w2 (k + mc2) (n + ms2)) : R G l y cc nL ret d mc ms Q pc lv (v2 :: v1 :: v0 :: .ref b :: st) w k n := R_callV (as := [v0, v1, v2]) (ci := 3) hM w_444 (by rw [hy]; exact w_441) w_443 ws_3 w_3 ⟨by decide, by decide, by rfl⟩ hdl (by decide) hk hn hst rfl rfl he hdg (fun r w2 h => by obtain ⟨x, rfl, h⟩ := h; exact kk x w2 h)
theorem k_X8_159 {v0 : Value} {d2 mc2 ms2 : Nat} {post : Int32 → VW → Prop} (hM : Sp G l yJ6_bitCount_0f7a4 cJ6_bitCount_0f7a4 1 (some .int) d2 mc2 ms2 [v0] w (QI post)) (hy : y.cls = RX8) (hdl : d2 < d) (hk : k + mc2 ≤ mc) (hn : n + ms2 ≤ ms) (hst : (st.map fun v => v.category).sum ≤ 8) (hdg : decode cc pc = .ok (.invokestatic 159, 3)) (kk : ∀ (x : Int32) (w2 : VW), post x w2 → R G l y cc nL ret d mc ms Q (pc + 3) lv (.int x :: st) w2 (k + mc2) (n + ms2)) : R G l y cc nL ret d mc ms Q pc lv (v0 :: st) w k n := R_callS (as := [v0]) hM w_450 (by rw [hy]; exact w_448) w_449 w_13 ⟨by decide, by decide, by rfl⟩ hdl (by decide) hk hn hst hdg (fun r w2 h => by obtain ⟨x, rfl, h⟩ := h; exact kk x w2 h)
theorem k_X3_109 {v0 v1 : Value} {b : Nat} {d2 mc2 ms2 : Nat} {post : Int32 → VW → Prop} {fs : List Value} (hM : Sp G l yX3_isMatch cX3_isMatch 4 (some .boolean) d2 mc2 ms2 [.ref b, v0, v1] w (QI post)) (hy : y.cls = RX3) (he : w[b]? = some (.inr (3, fs))) (hdl : d2 < d) (hk : k + mc2 ≤ mc) (hn : n + ms2 ≤ ms) (hst : (st.map fun v => v.category).sum ≤ 8) (hdg : decode cc pc = .ok (.invokevirtual 109, 3)) (kk : ∀ (x : Int32) (w2 : VW), post x w2 → R G l y cc nL ret d mc ms Q (pc + 3) lv (.int x :: st) w2 (k + mc2) (n + ms2)) : R G l y cc nL ret d mc ms Q pc lv (v1 :: v0 :: .ref b :: st) w k n := R_callV (as := [v0, v1]) (ci := 3) hM w_460 (by rw [hy]; exact w_457) w_458 w_459 w_3 ⟨by decide, by decide, by rfl⟩ hdl (by decide) hk hn hst rfl rfl he hdg (fun r w2 h => by obtain ⟨x, rfl, h⟩ := h; exact kk x w2 h)
theorem k_X3_94 {v0 v1 : Value} {b : Nat} {d2 mc2 ms2 : Nat} {post : Int32 → VW → Prop} {fs : List Value} (hM : Sp G l yX3_isLike cX3_isLike 3 (some .boolean) d2 mc2 ms2 [.ref b, v0, v1] w (QI post)) (hy : y.cls = RX3) (he : w[b]? = some (.inr (3, fs))) (hdl : d2 < d) (hk : k + mc2 ≤ mc) (hn : n + ms2 ≤ ms) (hst : (st.map fun v => v.category).sum ≤ 8) (hdg : decode cc pc = .ok (.invokevirtual 94, 3)) (kk : ∀ (x : Int32) (w2 : VW), post x w2 → R G l y cc nL ret d mc ms Q (pc + 3) lv (.int x :: st) w2 (k + mc2) (n + ms2)) : R G l y cc nL ret d mc ms Q pc lv (v1 :: v0 :: .ref b :: st) w k n := R_callV (as := [v0, v1]) (ci := 3) hM w_464 (by rw [hy]; exact w_461) w_462 w_463 w_3 ⟨by decide, by decide, by rfl⟩ hdl (by decide) hk hn hst rfl rfl he hdg (fun r w2 h => by obtain ⟨x, rfl, h⟩ := h; exact kk x w2 h)
theorem k_X8_134 {v0 : Value} {d2 mc2 ms2 : Nat} {post : Int32 → VW → Prop} (hM : Sp G l yX8_lowest cX8_lowest 1 (some .int) d2 mc2 ms2 [v0] w (QI post)) (hy : y.cls = RX8) (hdl : d2 < d) (hk : k + mc2 ≤ mc) (hn : n + ms2 ≤ ms) (hst : (st.map fun v => v.category).sum ≤ 8) (hdg : decode cc pc = .ok (.invokestatic 134, 3)) (kk : ∀ (x : Int32) (w2 : VW), post x w2 → R G l y cc nL ret d mc ms Q (pc + 3) lv (.int x :: st) w2 (k + mc2) (n + ms2)) : R G l y cc nL ret d mc ms Q pc lv (v0 :: st) w k n := R_callS (as := [v0]) hM w_447 (by rw [hy]; exact w_465) w_446 w_1 ⟨by decide, by decide, by rfl⟩ hdl (by decide) hk hn hst hdg (fun r w2 h => by obtain ⟨x, rfl, h⟩ := h; exact kk x w2 h)
theorem k_L_43 {v0 v1 : Value} {b : Nat} {d2 mc2 ms2 : Nat} {post : Int32 → VW → Prop} {fs : List Value} (hM : Sp G l yX8_far cX8_far 3 (some .int) d2 mc2 ms2 [.ref b, v0, v1] w (QI post)) (hy : y.cls = "ViewCardsLaw") (he : w[b]? = some (.inr (8, fs))) (hdl : d2 < d) (hk : k + mc2 ≤ mc) (hn : n + ms2 ≤ ms) (hst : (st.map fun v => v.category).sum ≤ 8) (hdg : decode cc pc = .ok (.invokevirtual 43, 3)) (kk : ∀ (x : Int32) (w2 : VW), post x w2 → R G l y cc nL ret d mc ms Q (pc + 3) lv (.int x :: st) w2 (k + mc2) (n + ms2)) : R G l y cc nL ret d mc ms Q pc lv (v1 :: v0 :: .ref b :: st) w k n := R_callV (as := [v0, v1]) (ci := 8) hM w_469 (by rw [hy]; exact w_466) w_467 w_468 w_1 ⟨by decide, by decide, by rfl⟩ hdl (by decide) hk hn hst rfl rfl he hdg (fun r w2 h => by obtain ⟨x, rfl, h⟩ := h; exact kk x w2 h)
theorem k_L_47 {v0 v1 : Value} {b : Nat} {d2 mc2 ms2 : Nat} {post : Int32 → VW → Prop} {fs : List Value} (hM : Sp G l yX8_match cX8_match 3 (some .int) d2 mc2 ms2 [.ref b, v0, v1] w (QI post)) (hy : y.cls = "ViewCardsLaw") (he : w[b]? = some (.inr (8, fs))) (hdl : d2 < d) (hk : k + mc2 ≤ mc) (hn : n + ms2 ≤ ms) (hst : (st.map fun v => v.category).sum ≤ 8) (hdg : decode cc pc = .ok (.invokevirtual 47, 3)) (kk : ∀ (x : Int32) (w2 : VW), post x w2 → R G l y cc nL ret d mc ms Q (pc + 3) lv (.int x :: st) w2 (k + mc2) (n + ms2)) : R G l y cc nL ret d mc ms Q pc lv (v1 :: v0 :: .ref b :: st) w k n := R_callV (as := [v0, v1]) (ci := 8) hM w_473 (by rw [hy]; exact w_470) w_471 w_472 w_1 ⟨by decide, by decide, by rfl⟩ hdl (by decide) hk hn hst rfl rfl he hdg (fun r w2 h => by obtain ⟨x, rfl, h⟩ := h; exact kk x w2 h)
theorem k_X8_141 {v0 v1 : Value} {b : Nat} {d2 mc2 ms2 : Nat} {post : Int32 → VW → Prop} {fs : List Value} (hM : Sp G l yX3_isMatch cX3_isMatch 4 (some .boolean) d2 mc2 ms2 [.ref b, v0, v1] w (QI post)) (hy : y.cls = RX8) (he : w[b]? = some (.inr (3, fs))) (hdl : d2 < d) (hk : k + mc2 ≤ mc) (hn : n + ms2 ≤ ms) (hst : (st.map fun v => v.category).sum ≤ 8) (hdg : decode cc pc = .ok (.invokevirtual 141, 3)) (kk : ∀ (x : Int32) (w2 : VW), post x w2 → R G l y cc nL ret d mc ms Q (pc + 3) lv (.int x :: st) w2 (k + mc2) (n + ms2)) : R G l y cc nL ret d mc ms Q pc lv (v1 :: v0 :: .ref b :: st) w k n := R_callV (as := [v0, v1]) (ci := 3) hM w_460 (by rw [hy]; exact w_474) w_458 w_459 w_3 ⟨by decide, by decide, by rfl⟩ hdl (by decide) hk hn hst rfl rfl he hdg (fun r w2 h => by obtain ⟨x, rfl, h⟩ := h; exact kk x w2 h)
theorem k_L_51 {v0 v1 : Value} {b : Nat} {d2 mc2 ms2 : Nat} {post : Int32 → VW → Prop} {fs : List Value} (hM : Sp G l yX8_of cX8_of 3 (some .int) d2 mc2 ms2 [.ref b, v0, v1] w (QI post)) (hy : y.cls = "ViewCardsLaw") (he : w[b]? = some (.inr (8, fs))) (hdl : d2 < d) (hk : k + mc2 ≤ mc) (hn : n + ms2 ≤ ms) (hst : (st.map fun v => v.category).sum ≤ 8) (hdg : decode cc pc = .ok (.invokevirtual 51, 3)) (kk : ∀ (x : Int32) (w2 : VW), post x w2 → R G l y cc nL ret d mc ms Q (pc + 3) lv (.int x :: st) w2 (k + mc2) (n + ms2)) : R G l y cc nL ret d mc ms Q pc lv (v1 :: v0 :: .ref b :: st) w k n := R_callV (as := [v0, v1]) (ci := 8) hM w_478 (by rw [hy]; exact w_475) w_476 w_477 w_1 ⟨by decide, by decide, by rfl⟩ hdl (by decide) hk hn hst rfl rfl he hdg (fun r w2 h => by obtain ⟨x, rfl, h⟩ := h; exact kk x w2 h)
theorem k_X8_144 {v0 v1 : Value} {b : Nat} {d2 mc2 ms2 : Nat} {post : Int32 → VW → Prop} {fs : List Value} (hM : Sp G l yX3_sameCard cX3_sameCard 3 (some .int) d2 mc2 ms2 [.ref b, v0, v1] w (QI post)) (hy : y.cls = RX8) (he : w[b]? = some (.inr (3, fs))) (hdl : d2 < d) (hk : k + mc2 ≤ mc) (hn : n + ms2 ≤ ms) (hst : (st.map fun v => v.category).sum ≤ 8) (hdg : decode cc pc = .ok (.invokevirtual 144, 3)) (kk : ∀ (x : Int32) (w2 : VW), post x w2 → R G l y cc nL ret d mc ms Q (pc + 3) lv (.int x :: st) w2 (k + mc2) (n + ms2)) : R G l y cc nL ret d mc ms Q pc lv (v1 :: v0 :: .ref b :: st) w k n := R_callV (as := [v0, v1]) (ci := 3) hM w_482 (by rw [hy]; exact w_479) w_480 w_481 w_3 ⟨by decide, by decide, by rfl⟩ hdl (by decide) hk hn hst rfl rfl he hdg (fun r w2 h => by obtain ⟨x, rfl, h⟩ := h; exact kk x w2 h)
theorem k_X8_147 {v0 : Value} {b : Nat} {d2 mc2 ms2 : Nat} {post : Int32 → VW → Prop} {fs : List Value} (hM : Sp G l yX8_timesSeen cX8_timesSeen 2 (some .int) d2 mc2 ms2 [.ref b, v0] w (QI post)) (hy : y.cls = RX8) (he : w[b]? = some (.inr (8, fs))) (hdl : d2 < d) (hk : k + mc2 ≤ mc) (hn : n + ms2 ≤ ms) (hst : (st.map fun v => v.category).sum ≤ 8) (hdg : decode cc pc = .ok (.invokevirtual 147, 3)) (kk : ∀ (x : Int32) (w2 : VW), post x w2 → R G l y cc nL ret d mc ms Q (pc + 3) lv (.int x :: st) w2 (k + mc2) (n + ms2)) : R G l y cc nL ret d mc ms Q pc lv (v0 :: .ref b :: st) w k n := R_callV (as := [v0]) (ci := 8) hM w_486 (by rw [hy]; exact w_483) w_485 ws_4 w_1 ⟨by decide, by decide, by rfl⟩ hdl (by decide) hk hn hst rfl rfl he hdg (fun r w2 h => by obtain ⟨x, rfl, h⟩ := h; exact kk x w2 h)
theorem k_X8_164 {v0 : Value} {b : Nat} {d2 mc2 ms2 : Nat} {post : Int32 → VW → Prop} {fs : List Value} (hM : Sp G l yX0_listsOf cX0_listsOf 2 (some .int) d2 mc2 ms2 [.ref b, v0] w (QI post)) (hy : y.cls = RX8) (he : w[b]? = some (.inr (0, fs))) (hdl : d2 < d) (hk : k + mc2 ≤ mc) (hn : n + ms2 ≤ ms) (hst : (st.map fun v => v.category).sum ≤ 8) (hdg : decode cc pc = .ok (.invokevirtual 164, 3)) (kk : ∀ (x : Int32) (w2 : VW), post x w2 → R G l y cc nL ret d mc ms Q (pc + 3) lv (.int x :: st) w2 (k + mc2) (n + ms2)) : R G l y cc nL ret d mc ms Q pc lv (v0 :: .ref b :: st) w k n := R_callV (as := [v0]) (ci := 0) hM w_490 (by rw [hy]; exact w_487) w_488 w_489 w_2 ⟨by decide, by decide, by rfl⟩ hdl (by decide) hk hn hst rfl rfl he hdg (fun r w2 h => by obtain ⟨x, rfl, h⟩ := h; exact kk x w2 h)
theorem k_X0_57 {v0 v1 : Value} {d2 mc2 ms2 : Nat} {post : Int32 → VW → Prop} (hM : Sp G l yX0_valuesOf cX0_valuesOf 4 (some .int) d2 mc2 ms2 [v0, v1] w (QI post)) (hy : y.cls = RX0) (hdl : d2 < d) (hk : k + mc2 ≤ mc) (hn : n + ms2 ≤ ms) (hst : (st.map fun v => v.category).sum ≤ 8) (hdg : decode cc pc = .ok (.invokestatic 57, 3)) (kk : ∀ (x : Int32) (w2 : VW), post x w2 → R G l y cc nL ret d mc ms Q (pc + 3) lv (.int x :: st) w2 (k + mc2) (n + ms2)) : R G l y cc nL ret d mc ms Q pc lv (v1 :: v0 :: st) w k n := R_callS (as := [v0, v1]) hM w_493 (by rw [hy]; exact w_491) w_492 w_2 ⟨by decide, by decide, by rfl⟩ hdl (by decide) hk hn hst hdg (fun r w2 h => by obtain ⟨x, rfl, h⟩ := h; exact kk x w2 h)
theorem k_X8_150 {v0 v1 : Value} {b : Nat} {d2 mc2 ms2 : Nat} {post : Int32 → VW → Prop} {fs : List Value} (hM : Sp G l yX3_rivals cX3_rivals 7 (some .int) d2 mc2 ms2 [.ref b, v0, v1] w (QI post)) (hy : y.cls = RX8) (he : w[b]? = some (.inr (3, fs))) (hdl : d2 < d) (hk : k + mc2 ≤ mc) (hn : n + ms2 ≤ ms) (hst : (st.map fun v => v.category).sum ≤ 8) (hdg : decode cc pc = .ok (.invokevirtual 150, 3)) (kk : ∀ (x : Int32) (w2 : VW), post x w2 → R G l y cc nL ret d mc ms Q (pc + 3) lv (.int x :: st) w2 (k + mc2) (n + ms2)) : R G l y cc nL ret d mc ms Q pc lv (v1 :: v0 :: .ref b :: st) w k n := R_callV (as := [v0, v1]) (ci := 3) hM w_498 (by rw [hy]; exact w_495) w_496 w_497 w_3 ⟨by decide, by decide, by rfl⟩ hdl (by decide) hk hn hst rfl rfl he hdg (fun r w2 h => by obtain ⟨x, rfl, h⟩ := h; exact kk x w2 h)
theorem k_X3_116 {v0 : Value} {d2 mc2 ms2 : Nat} {post : Int32 → VW → Prop} (hM : Sp G l yJ6_bitCount_0f7a4 cJ6_bitCount_0f7a4 1 (some .int) d2 mc2 ms2 [v0] w (QI post)) (hy : y.cls = RX3) (hdl : d2 < d) (hk : k + mc2 ≤ mc) (hn : n + ms2 ≤ ms) (hst : (st.map fun v => v.category).sum ≤ 8) (hdg : decode cc pc = .ok (.invokestatic 116, 3)) (kk : ∀ (x : Int32) (w2 : VW), post x w2 → R G l y cc nL ret d mc ms Q (pc + 3) lv (.int x :: st) w2 (k + mc2) (n + ms2)) : R G l y cc nL ret d mc ms Q pc lv (v0 :: st) w k n := R_callS (as := [v0]) hM w_450 (by rw [hy]; exact w_499) w_449 w_13 ⟨by decide, by decide, by rfl⟩ hdl (by decide) hk hn hst hdg (fun r w2 h => by obtain ⟨x, rfl, h⟩ := h; exact kk x w2 h)
theorem k_X8_153 {v0 : Value} {b : Nat} {d2 mc2 ms2 : Nat} {post : Int32 → VW → Prop} {fs : List Value} (hM : Sp G l yX8_priceOf cX8_priceOf 3 (some .int) d2 mc2 ms2 [.ref b, v0] w (QI post)) (hy : y.cls = RX8) (he : w[b]? = some (.inr (8, fs))) (hdl : d2 < d) (hk : k + mc2 ≤ mc) (hn : n + ms2 ≤ ms) (hst : (st.map fun v => v.category).sum ≤ 8) (hdg : decode cc pc = .ok (.invokevirtual 153, 3)) (kk : ∀ (x : Int32) (w2 : VW), post x w2 → R G l y cc nL ret d mc ms Q (pc + 3) lv (.int x :: st) w2 (k + mc2) (n + ms2)) : R G l y cc nL ret d mc ms Q pc lv (v0 :: .ref b :: st) w k n := R_callV (as := [v0]) (ci := 8) hM w_503 (by rw [hy]; exact w_500) w_502 ws_5 w_1 ⟨by decide, by decide, by rfl⟩ hdl (by decide) hk hn hst rfl rfl he hdg (fun r w2 h => by obtain ⟨x, rfl, h⟩ := h; exact kk x w2 h)
theorem k_X8_175 {v0 : Value} {b : Nat} {d2 mc2 ms2 : Nat} {post : VW → Prop} {fs : List Value} (hM : Sp G l yX5_gather cX5_gather 3 none d2 mc2 ms2 [.ref b, v0] w (QV post)) (hy : y.cls = RX8) (he : w[b]? = some (.inr (5, fs))) (hdl : d2 < d) (hk : k + mc2 ≤ mc) (hn : n + ms2 ≤ ms) (hst : (st.map fun v => v.category).sum ≤ 8) (hdg : decode cc pc = .ok (.invokevirtual 175, 3)) (kk : ∀ (w2 : VW), post w2 → R G l y cc nL ret d mc ms Q (pc + 3) lv st w2 (k + mc2) (n + ms2)) : R G l y cc nL ret d mc ms Q pc lv (v0 :: .ref b :: st) w k n := R_callV (as := [v0]) (ci := 5) hM w_508 (by rw [hy]; exact w_505) w_506 w_507 w_4 ⟨by decide, by decide, by rfl⟩ hdl (by decide) hk hn hst rfl rfl he hdg (fun r w2 h => by obtain ⟨rfl, h⟩ := h; exact kk w2 h)
theorem k_X5_25 {v0 : Value} {b : Nat} {d2 mc2 ms2 : Nat} {post : Int32 → VW → Prop} {fs : List Value} (hM : Sp G l yX0_isThere cX0_isThere 2 (some .boolean) d2 mc2 ms2 [.ref b, v0] w (QI post)) (hy : y.cls = RX5) (he : w[b]? = some (.inr (0, fs))) (hdl : d2 < d) (hk : k + mc2 ≤ mc) (hn : n + ms2 ≤ ms) (hst : (st.map fun v => v.category).sum ≤ 8) (hdg : decode cc pc = .ok (.invokevirtual 25, 3)) (kk : ∀ (x : Int32) (w2 : VW), post x w2 → R G l y cc nL ret d mc ms Q (pc + 3) lv (.int x :: st) w2 (k + mc2) (n + ms2)) : R G l y cc nL ret d mc ms Q pc lv (v0 :: .ref b :: st) w k n := R_callV (as := [v0]) (ci := 0) hM w_407 (by rw [hy]; exact w_509) w_405 w_406 w_2 ⟨by decide, by decide, by rfl⟩ hdl (by decide) hk hn hst rfl rfl he hdg (fun r w2 h => by obtain ⟨x, rfl, h⟩ := h; exact kk x w2 h)
theorem k_X8_181 {v0 : Value} {b : Nat} {d2 mc2 ms2 : Nat} {post : Int32 → VW → Prop} {fs : List Value} (hM : Sp G l yX5_isByGap cX5_isByGap 2 (some .boolean) d2 mc2 ms2 [.ref b, v0] w (QI post)) (hy : y.cls = RX8) (he : w[b]? = some (.inr (5, fs))) (hdl : d2 < d) (hk : k + mc2 ≤ mc) (hn : n + ms2 ≤ ms) (hst : (st.map fun v => v.category).sum ≤ 8) (hdg : decode cc pc = .ok (.invokevirtual 181, 3)) (kk : ∀ (x : Int32) (w2 : VW), post x w2 → R G l y cc nL ret d mc ms Q (pc + 3) lv (.int x :: st) w2 (k + mc2) (n + ms2)) : R G l y cc nL ret d mc ms Q pc lv (v0 :: .ref b :: st) w k n := R_callV (as := [v0]) (ci := 5) hM w_513 (by rw [hy]; exact w_510) w_511 w_512 w_4 ⟨by decide, by decide, by rfl⟩ hdl (by decide) hk hn hst rfl rfl he hdg (fun r w2 h => by obtain ⟨x, rfl, h⟩ := h; exact kk x w2 h)
theorem k_X5_43 {v0 : Value} {b : Nat} {d2 mc2 ms2 : Nat} {post : Int32 → VW → Prop} {fs : List Value} (hM : Sp G l yX5_isMissing cX5_isMissing 2 (some .boolean) d2 mc2 ms2 [.ref b, v0] w (QI post)) (hy : y.cls = RX5) (he : w[b]? = some (.inr (5, fs))) (hdl : d2 < d) (hk : k + mc2 ≤ mc) (hn : n + ms2 ≤ ms) (hst : (st.map fun v => v.category).sum ≤ 8) (hdg : decode cc pc = .ok (.invokevirtual 43, 3)) (kk : ∀ (x : Int32) (w2 : VW), post x w2 → R G l y cc nL ret d mc ms Q (pc + 3) lv (.int x :: st) w2 (k + mc2) (n + ms2)) : R G l y cc nL ret d mc ms Q pc lv (v0 :: .ref b :: st) w k n := R_callV (as := [v0]) (ci := 5) hM w_517 (by rw [hy]; exact w_514) w_515 w_516 w_4 ⟨by decide, by decide, by rfl⟩ hdl (by decide) hk hn hst rfl rfl he hdg (fun r w2 h => by obtain ⟨x, rfl, h⟩ := h; exact kk x w2 h)
theorem k_X8_156 {v0 : Value} {b : Nat} {d2 mc2 ms2 : Nat} {post : Int32 → VW → Prop} {fs : List Value} (hM : Sp G l yX0_publishersOf cX0_publishersOf 2 (some .int) d2 mc2 ms2 [.ref b, v0] w (QI post)) (hy : y.cls = RX8) (he : w[b]? = some (.inr (0, fs))) (hdl : d2 < d) (hk : k + mc2 ≤ mc) (hn : n + ms2 ≤ ms) (hst : (st.map fun v => v.category).sum ≤ 8) (hdg : decode cc pc = .ok (.invokevirtual 156, 3)) (kk : ∀ (x : Int32) (w2 : VW), post x w2 → R G l y cc nL ret d mc ms Q (pc + 3) lv (.int x :: st) w2 (k + mc2) (n + ms2)) : R G l y cc nL ret d mc ms Q pc lv (v0 :: .ref b :: st) w k n := R_callV (as := [v0]) (ci := 0) hM w_521 (by rw [hy]; exact w_518) w_519 w_520 w_2 ⟨by decide, by decide, by rfl⟩ hdl (by decide) hk hn hst rfl rfl he hdg (fun r w2 h => by obtain ⟨x, rfl, h⟩ := h; exact kk x w2 h)
theorem k_L_55 {v0 v1 : Value} {b : Nat} {d2 mc2 ms2 : Nat} {post : Int32 → VW → Prop} {fs : List Value} (hM : Sp G l yX8_series cX8_series 3 (some .int) d2 mc2 ms2 [.ref b, v0, v1] w (QI post)) (hy : y.cls = "ViewCardsLaw") (he : w[b]? = some (.inr (8, fs))) (hdl : d2 < d) (hk : k + mc2 ≤ mc) (hn : n + ms2 ≤ ms) (hst : (st.map fun v => v.category).sum ≤ 8) (hdg : decode cc pc = .ok (.invokevirtual 55, 3)) (kk : ∀ (x : Int32) (w2 : VW), post x w2 → R G l y cc nL ret d mc ms Q (pc + 3) lv (.int x :: st) w2 (k + mc2) (n + ms2)) : R G l y cc nL ret d mc ms Q pc lv (v1 :: v0 :: .ref b :: st) w k n := R_callV (as := [v0, v1]) (ci := 8) hM w_525 (by rw [hy]; exact w_522) w_523 w_524 w_1 ⟨by decide, by decide, by rfl⟩ hdl (by decide) hk hn hst rfl rfl he hdg (fun r w2 h => by obtain ⟨x, rfl, h⟩ := h; exact kk x w2 h)
theorem k_X8_191 {b : Nat} {d2 mc2 ms2 : Nat} {post : Int32 → VW → Prop} {fs : List Value} (hM : Sp G l yX5_missing cX5_missing 1 (some .int) d2 mc2 ms2 [.ref b] w (QI post)) (hy : y.cls = RX8) (he : w[b]? = some (.inr (5, fs))) (hdl : d2 < d) (hk : k + mc2 ≤ mc) (hn : n + ms2 ≤ ms) (hst : (st.map fun v => v.category).sum ≤ 8) (hdg : decode cc pc = .ok (.invokevirtual 191, 3)) (kk : ∀ (x : Int32) (w2 : VW), post x w2 → R G l y cc nL ret d mc ms Q (pc + 3) lv (.int x :: st) w2 (k + mc2) (n + ms2)) : R G l y cc nL ret d mc ms Q pc lv (.ref b :: st) w k n := R_callV (as := []) (ci := 5) hM w_529 (by rw [hy]; exact w_526) w_527 w_528 w_4 ⟨by decide, by decide, by rfl⟩ hdl (by decide) hk hn hst rfl rfl he hdg (fun r w2 h => by obtain ⟨x, rfl, h⟩ := h; exact kk x w2 h)
theorem k_X8_194 {b : Nat} {d2 mc2 ms2 : Nat} {post : Int32 → VW → Prop} {fs : List Value} (hM : Sp G l yX5_gaps cX5_gaps 3 (some .int) d2 mc2 ms2 [.ref b] w (QI post)) (hy : y.cls = RX8) (he : w[b]? = some (.inr (5, fs))) (hdl : d2 < d) (hk : k + mc2 ≤ mc) (hn : n + ms2 ≤ ms) (hst : (st.map fun v => v.category).sum ≤ 8) (hdg : decode cc pc = .ok (.invokevirtual 194, 3)) (kk : ∀ (x : Int32) (w2 : VW), post x w2 → R G l y cc nL ret d mc ms Q (pc + 3) lv (.int x :: st) w2 (k + mc2) (n + ms2)) : R G l y cc nL ret d mc ms Q pc lv (.ref b :: st) w k n := R_callV (as := []) (ci := 5) hM w_533 (by rw [hy]; exact w_530) w_531 w_532 w_4 ⟨by decide, by decide, by rfl⟩ hdl (by decide) hk hn hst rfl rfl he hdg (fun r w2 h => by obtain ⟨x, rfl, h⟩ := h; exact kk x w2 h)
theorem k_L_59 {v0 v1 : Value} {b : Nat} {d2 mc2 ms2 : Nat} {post : Int32 → VW → Prop} {fs : List Value} (hM : Sp G l yX8_gap cX8_gap 3 (some .int) d2 mc2 ms2 [.ref b, v0, v1] w (QI post)) (hy : y.cls = "ViewCardsLaw") (he : w[b]? = some (.inr (8, fs))) (hdl : d2 < d) (hk : k + mc2 ≤ mc) (hn : n + ms2 ≤ ms) (hst : (st.map fun v => v.category).sum ≤ 8) (hdg : decode cc pc = .ok (.invokevirtual 59, 3)) (kk : ∀ (x : Int32) (w2 : VW), post x w2 → R G l y cc nL ret d mc ms Q (pc + 3) lv (.int x :: st) w2 (k + mc2) (n + ms2)) : R G l y cc nL ret d mc ms Q pc lv (v1 :: v0 :: .ref b :: st) w k n := R_callV (as := [v0, v1]) (ci := 8) hM w_537 (by rw [hy]; exact w_534) w_535 w_536 w_1 ⟨by decide, by decide, by rfl⟩ hdl (by decide) hk hn hst rfl rfl he hdg (fun r w2 h => by obtain ⟨x, rfl, h⟩ := h; exact kk x w2 h)
theorem k_X8_197 {v0 : Value} {b : Nat} {d2 mc2 ms2 : Nat} {post : Int32 → VW → Prop} {fs : List Value} (hM : Sp G l yX5_gapAt cX5_gapAt 5 (some .int) d2 mc2 ms2 [.ref b, v0] w (QI post)) (hy : y.cls = RX8) (he : w[b]? = some (.inr (5, fs))) (hdl : d2 < d) (hk : k + mc2 ≤ mc) (hn : n + ms2 ≤ ms) (hst : (st.map fun v => v.category).sum ≤ 8) (hdg : decode cc pc = .ok (.invokevirtual 197, 3)) (kk : ∀ (x : Int32) (w2 : VW), post x w2 → R G l y cc nL ret d mc ms Q (pc + 3) lv (.int x :: st) w2 (k + mc2) (n + ms2)) : R G l y cc nL ret d mc ms Q pc lv (v0 :: .ref b :: st) w k n := R_callV (as := [v0]) (ci := 5) hM w_541 (by rw [hy]; exact w_538) w_539 w_540 w_4 ⟨by decide, by decide, by rfl⟩ hdl (by decide) hk hn hst rfl rfl he hdg (fun r w2 h => by obtain ⟨x, rfl, h⟩ := h; exact kk x w2 h)
theorem k_L_63 {v0 : Value} {b : Nat} {d2 mc2 ms2 : Nat} {post : Int32 → VW → Prop} {fs : List Value} (hM : Sp G l yX8_unseen cX8_unseen 7 (some .int) d2 mc2 ms2 [.ref b, v0] w (QI post)) (hy : y.cls = "ViewCardsLaw") (he : w[b]? = some (.inr (8, fs))) (hdl : d2 < d) (hk : k + mc2 ≤ mc) (hn : n + ms2 ≤ ms) (hst : (st.map fun v => v.category).sum ≤ 8) (hdg : decode cc pc = .ok (.invokevirtual 63, 3)) (kk : ∀ (x : Int32) (w2 : VW), post x w2 → R G l y cc nL ret d mc ms Q (pc + 3) lv (.int x :: st) w2 (k + mc2) (n + ms2)) : R G l y cc nL ret d mc ms Q pc lv (v0 :: .ref b :: st) w k n := R_callV (as := [v0]) (ci := 8) hM w_545 (by rw [hy]; exact w_542) w_543 w_544 w_1 ⟨by decide, by decide, by rfl⟩ hdl (by decide) hk hn hst rfl rfl he hdg (fun r w2 h => by obtain ⟨x, rfl, h⟩ := h; exact kk x w2 h)
theorem k_X8_200 {v0 : Value} {b : Nat} {d2 mc2 ms2 : Nat} {post : Int32 → VW → Prop} {fs : List Value} (hM : Sp G l yX8_cardsSeen cX8_cardsSeen 5 (some .int) d2 mc2 ms2 [.ref b, v0] w (QI post)) (hy : y.cls = RX8) (he : w[b]? = some (.inr (8, fs))) (hdl : d2 < d) (hk : k + mc2 ≤ mc) (hn : n + ms2 ≤ ms) (hst : (st.map fun v => v.category).sum ≤ 8) (hdg : decode cc pc = .ok (.invokevirtual 200, 3)) (kk : ∀ (x : Int32) (w2 : VW), post x w2 → R G l y cc nL ret d mc ms Q (pc + 3) lv (.int x :: st) w2 (k + mc2) (n + ms2)) : R G l y cc nL ret d mc ms Q pc lv (v0 :: .ref b :: st) w k n := R_callV (as := [v0]) (ci := 8) hM w_549 (by rw [hy]; exact w_546) w_548 ws_6 w_1 ⟨by decide, by decide, by rfl⟩ hdl (by decide) hk hn hst rfl rfl he hdg (fun r w2 h => by obtain ⟨x, rfl, h⟩ := h; exact kk x w2 h)
theorem k_X8_206 {v0 : Value} {b : Nat} {d2 mc2 ms2 : Nat} {post : Int32 → VW → Prop} {fs : List Value} (hM : Sp G l yX3_differentCards cX3_differentCards 2 (some .int) d2 mc2 ms2 [.ref b, v0] w (QI post)) (hy : y.cls = RX8) (he : w[b]? = some (.inr (3, fs))) (hdl : d2 < d) (hk : k + mc2 ≤ mc) (hn : n + ms2 ≤ ms) (hst : (st.map fun v => v.category).sum ≤ 8) (hdg : decode cc pc = .ok (.invokevirtual 206, 3)) (kk : ∀ (x : Int32) (w2 : VW), post x w2 → R G l y cc nL ret d mc ms Q (pc + 3) lv (.int x :: st) w2 (k + mc2) (n + ms2)) : R G l y cc nL ret d mc ms Q pc lv (v0 :: .ref b :: st) w k n := R_callV (as := [v0]) (ci := 3) hM w_553 (by rw [hy]; exact w_550) w_551 w_552 w_3 ⟨by decide, by decide, by rfl⟩ hdl (by decide) hk hn hst rfl rfl he hdg (fun r w2 h => by obtain ⟨x, rfl, h⟩ := h; exact kk x w2 h)
theorem k_X3_112 {v0 v1 : Value} {b : Nat} {d2 mc2 ms2 : Nat} {post : Int32 → VW → Prop} {fs : List Value} (hM : Sp G l yX3_leastOfChains cX3_leastOfChains 6 (some .int) d2 mc2 ms2 [.ref b, v0, v1] w (QI post)) (hy : y.cls = RX3) (he : w[b]? = some (.inr (3, fs))) (hdl : d2 < d) (hk : k + mc2 ≤ mc) (hn : n + ms2 ≤ ms) (hst : (st.map fun v => v.category).sum ≤ 8) (hdg : decode cc pc = .ok (.invokevirtual 112, 3)) (kk : ∀ (x : Int32) (w2 : VW), post x w2 → R G l y cc nL ret d mc ms Q (pc + 3) lv (.int x :: st) w2 (k + mc2) (n + ms2)) : R G l y cc nL ret d mc ms Q pc lv (v1 :: v0 :: .ref b :: st) w k n := R_callV (as := [v0, v1]) (ci := 3) hM w_557 (by rw [hy]; exact w_554) w_556 ws_7 w_3 ⟨by decide, by decide, by rfl⟩ hdl (by decide) hk hn hst rfl rfl he hdg (fun r w2 h => by obtain ⟨x, rfl, h⟩ := h; exact kk x w2 h)
theorem k_X8_209 {v0 v1 : Value} {d2 mc2 ms2 : Nat} {post : Int32 → VW → Prop} (hM : Sp G l yX8_has cX8_has 2 (some .boolean) d2 mc2 ms2 [v0, v1] w (QI post)) (hy : y.cls = RX8) (hdl : d2 < d) (hk : k + mc2 ≤ mc) (hn : n + ms2 ≤ ms) (hst : (st.map fun v => v.category).sum ≤ 8) (hdg : decode cc pc = .ok (.invokestatic 209, 3)) (kk : ∀ (x : Int32) (w2 : VW), post x w2 → R G l y cc nL ret d mc ms Q (pc + 3) lv (.int x :: st) w2 (k + mc2) (n + ms2)) : R G l y cc nL ret d mc ms Q pc lv (v1 :: v0 :: st) w k n := R_callS (as := [v0, v1]) hM w_456 (by rw [hy]; exact w_558) w_455 w_1 ⟨by decide, by decide, by rfl⟩ hdl (by decide) hk hn hst hdg (fun r w2 h => by obtain ⟨x, rfl, h⟩ := h; exact kk x w2 h)
theorem k_X8_203 {v0 v1 : Value} {d2 mc2 ms2 : Nat} {post : Int32 → VW → Prop} (hM : Sp G l yX8_commonDivisor cX8_commonDivisor 6 (some .int) d2 mc2 ms2 [v0, v1] w (QI post)) (hy : y.cls = RX8) (hdl : d2 < d) (hk : k + mc2 ≤ mc) (hn : n + ms2 ≤ ms) (hst : (st.map fun v => v.category).sum ≤ 8) (hdg : decode cc pc = .ok (.invokestatic 203, 3)) (kk : ∀ (x : Int32) (w2 : VW), post x w2 → R G l y cc nL ret d mc ms Q (pc + 3) lv (.int x :: st) w2 (k + mc2) (n + ms2)) : R G l y cc nL ret d mc ms Q pc lv (v1 :: v0 :: st) w k n := R_callS (as := [v0, v1]) hM w_561 (by rw [hy]; exact w_559) w_560 w_1 ⟨by decide, by decide, by rfl⟩ hdl (by decide) hk hn hst hdg (fun r w2 h => by obtain ⟨x, rfl, h⟩ := h; exact kk x w2 h)
theorem k_L_67 {v0 v1 v2 : Value} {b : Nat} {d2 mc2 ms2 : Nat} {post : Int32 → VW → Prop} {fs : List Value} (hM : Sp G l yX8_overlap cX8_overlap 5 (some .int) d2 mc2 ms2 [.ref b, v0, v1, v2] w (QI post)) (hy : y.cls = "ViewCardsLaw") (he : w[b]? = some (.inr (8, fs))) (hdl : d2 < d) (hk : k + mc2 ≤ mc) (hn : n + ms2 ≤ ms) (hst : (st.map fun v => v.category).sum ≤ 8) (hdg : decode cc pc = .ok (.invokevirtual 67, 3)) (kk : ∀ (x : Int32) (w2 : VW), post x w2 → R G l y cc nL ret d mc ms Q (pc + 3) lv (.int x :: st) w2 (k + mc2) (n + ms2)) : R G l y cc nL ret d mc ms Q pc lv (v2 :: v1 :: v0 :: .ref b :: st) w k n := R_callV (as := [v0, v1, v2]) (ci := 8) hM w_565 (by rw [hy]; exact w_562) w_563 w_564 w_1 ⟨by decide, by decide, by rfl⟩ hdl (by decide) hk hn hst rfl rfl he hdg (fun r w2 h => by obtain ⟨x, rfl, h⟩ := h; exact kk x w2 h)
theorem k_X8_212 {v0 v1 : Value} {b : Nat} {d2 mc2 ms2 : Nat} {post : Int32 → VW → Prop} {fs : List Value} (hM : Sp G l yX8_cardsInBoth cX8_cardsInBoth 7 (some .int) d2 mc2 ms2 [.ref b, v0, v1] w (QI post)) (hy : y.cls = RX8) (he : w[b]? = some (.inr (8, fs))) (hdl : d2 < d) (hk : k + mc2 ≤ mc) (hn : n + ms2 ≤ ms) (hst : (st.map fun v => v.category).sum ≤ 8) (hdg : decode cc pc = .ok (.invokevirtual 212, 3)) (kk : ∀ (x : Int32) (w2 : VW), post x w2 → R G l y cc nL ret d mc ms Q (pc + 3) lv (.int x :: st) w2 (k + mc2) (n + ms2)) : R G l y cc nL ret d mc ms Q pc lv (v1 :: v0 :: .ref b :: st) w k n := R_callV (as := [v0, v1]) (ci := 8) hM w_569 (by rw [hy]; exact w_566) w_568 ws_8 w_1 ⟨by decide, by decide, by rfl⟩ hdl (by decide) hk hn hst rfl rfl he hdg (fun r w2 h => by obtain ⟨x, rfl, h⟩ := h; exact kk x w2 h)
theorem k_L_72 {v0 v1 v2 : Value} {b : Nat} {d2 mc2 ms2 : Nat} {post : Int32 → VW → Prop} {fs : List Value} (hM : Sp G l yX8_feature cX8_feature 4 (some .int) d2 mc2 ms2 [.ref b, v0, v1, v2] w (QI post)) (hy : y.cls = "ViewCardsLaw") (he : w[b]? = some (.inr (8, fs))) (hdl : d2 < d) (hk : k + mc2 ≤ mc) (hn : n + ms2 ≤ ms) (hst : (st.map fun v => v.category).sum ≤ 8) (hdg : decode cc pc = .ok (.invokevirtual 72, 3)) (kk : ∀ (x : Int32) (w2 : VW), post x w2 → R G l y cc nL ret d mc ms Q (pc + 3) lv (.int x :: st) w2 (k + mc2) (n + ms2)) : R G l y cc nL ret d mc ms Q pc lv (v2 :: v1 :: v0 :: .ref b :: st) w k n := R_callV (as := [v0, v1, v2]) (ci := 8) hM w_573 (by rw [hy]; exact w_570) w_571 w_572 w_1 ⟨by decide, by decide, by rfl⟩ hdl (by decide) hk hn hst rfl rfl he hdg (fun r w2 h => by obtain ⟨x, rfl, h⟩ := h; exact kk x w2 h)
theorem k_X8_215 {v0 v1 : Value} {d2 mc2 ms2 : Nat} {post : Int32 → VW → Prop} (hM : Sp G l yX8_isSpan cX8_isSpan 2 (some .boolean) d2 mc2 ms2 [v0, v1] w (QI post)) (hy : y.cls = RX8) (hdl : d2 < d) (hk : k + mc2 ≤ mc) (hn : n + ms2 ≤ ms) (hst : (st.map fun v => v.category).sum ≤ 8) (hdg : decode cc pc = .ok (.invokestatic 215, 3)) (kk : ∀ (x : Int32) (w2 : VW), post x w2 → R G l y cc nL ret d mc ms Q (pc + 3) lv (.int x :: st) w2 (k + mc2) (n + ms2)) : R G l y cc nL ret d mc ms Q pc lv (v1 :: v0 :: st) w k n := R_callS (as := [v0, v1]) hM w_576 (by rw [hy]; exact w_574) w_575 w_1 ⟨by decide, by decide, by rfl⟩ hdl (by decide) hk hn hst hdg (fun r w2 h => by obtain ⟨x, rfl, h⟩ := h; exact kk x w2 h)
theorem k_L_76 {v0 v1 v2 : Value} {b : Nat} {d2 mc2 ms2 : Nat} {post : Int32 → VW → Prop} {fs : List Value} (hM : Sp G l yX8_shows cX8_shows 5 (some .int) d2 mc2 ms2 [.ref b, v0, v1, v2] w (QI post)) (hy : y.cls = "ViewCardsLaw") (he : w[b]? = some (.inr (8, fs))) (hdl : d2 < d) (hk : k + mc2 ≤ mc) (hn : n + ms2 ≤ ms) (hst : (st.map fun v => v.category).sum ≤ 8) (hdg : decode cc pc = .ok (.invokevirtual 76, 3)) (kk : ∀ (x : Int32) (w2 : VW), post x w2 → R G l y cc nL ret d mc ms Q (pc + 3) lv (.int x :: st) w2 (k + mc2) (n + ms2)) : R G l y cc nL ret d mc ms Q pc lv (v2 :: v1 :: v0 :: .ref b :: st) w k n := R_callV (as := [v0, v1, v2]) (ci := 8) hM w_580 (by rw [hy]; exact w_577) w_578 w_579 w_1 ⟨by decide, by decide, by rfl⟩ hdl (by decide) hk hn hst rfl rfl he hdg (fun r w2 h => by obtain ⟨x, rfl, h⟩ := h; exact kk x w2 h)
theorem k_L_80 {v0 v1 v2 : Value} {b : Nat} {d2 mc2 ms2 : Nat} {post : Int32 → VW → Prop} {fs : List Value} (hM : Sp G l yX8_back cX8_back 4 (some .int) d2 mc2 ms2 [.ref b, v0, v1, v2] w (QI post)) (hy : y.cls = "ViewCardsLaw") (he : w[b]? = some (.inr (8, fs))) (hdl : d2 < d) (hk : k + mc2 ≤ mc) (hn : n + ms2 ≤ ms) (hst : (st.map fun v => v.category).sum ≤ 8) (hdg : decode cc pc = .ok (.invokevirtual 80, 3)) (kk : ∀ (x : Int32) (w2 : VW), post x w2 → R G l y cc nL ret d mc ms Q (pc + 3) lv (.int x :: st) w2 (k + mc2) (n + ms2)) : R G l y cc nL ret d mc ms Q pc lv (v2 :: v1 :: v0 :: .ref b :: st) w k n := R_callV (as := [v0, v1, v2]) (ci := 8) hM w_584 (by rw [hy]; exact w_581) w_582 w_583 w_1 ⟨by decide, by decide, by rfl⟩ hdl (by decide) hk hn hst rfl rfl he hdg (fun r w2 h => by obtain ⟨x, rfl, h⟩ := h; exact kk x w2 h)
theorem k_L_84 {v0 v1 : Value} {b : Nat} {d2 mc2 ms2 : Nat} {post : Int32 → VW → Prop} {fs : List Value} (hM : Sp G l yX8_later cX8_later 3 (some .int) d2 mc2 ms2 [.ref b, v0, v1] w (QI post)) (hy : y.cls = "ViewCardsLaw") (he : w[b]? = some (.inr (8, fs))) (hdl : d2 < d) (hk : k + mc2 ≤ mc) (hn : n + ms2 ≤ ms) (hst : (st.map fun v => v.category).sum ≤ 8) (hdg : decode cc pc = .ok (.invokevirtual 84, 3)) (kk : ∀ (x : Int32) (w2 : VW), post x w2 → R G l y cc nL ret d mc ms Q (pc + 3) lv (.int x :: st) w2 (k + mc2) (n + ms2)) : R G l y cc nL ret d mc ms Q pc lv (v1 :: v0 :: .ref b :: st) w k n := R_callV (as := [v0, v1]) (ci := 8) hM w_588 (by rw [hy]; exact w_585) w_586 w_587 w_1 ⟨by decide, by decide, by rfl⟩ hdl (by decide) hk hn hst rfl rfl he hdg (fun r w2 h => by obtain ⟨x, rfl, h⟩ := h; exact kk x w2 h)
theorem k_L_88 {v0 v1 v2 : Value} {b : Nat} {d2 mc2 ms2 : Nat} {post : Int32 → VW → Prop} {fs : List Value} (hM : Sp G l yX8_span cX8_span 5 (some .int) d2 mc2 ms2 [.ref b, v0, v1, v2] w (QI post)) (hy : y.cls = "ViewCardsLaw") (he : w[b]? = some (.inr (8, fs))) (hdl : d2 < d) (hk : k + mc2 ≤ mc) (hn : n + ms2 ≤ ms) (hst : (st.map fun v => v.category).sum ≤ 8) (hdg : decode cc pc = .ok (.invokevirtual 88, 3)) (kk : ∀ (x : Int32) (w2 : VW), post x w2 → R G l y cc nL ret d mc ms Q (pc + 3) lv (.int x :: st) w2 (k + mc2) (n + ms2)) : R G l y cc nL ret d mc ms Q pc lv (v2 :: v1 :: v0 :: .ref b :: st) w k n := R_callV (as := [v0, v1, v2]) (ci := 8) hM w_592 (by rw [hy]; exact w_589) w_590 w_591 w_1 ⟨by decide, by decide, by rfl⟩ hdl (by decide) hk hn hst rfl rfl he hdg (fun r w2 h => by obtain ⟨x, rfl, h⟩ := h; exact kk x w2 h)
theorem k_X8_242 {v0 v1 : Value} {b : Nat} {d2 mc2 ms2 : Nat} {post : Int32 → VW → Prop} {fs : List Value} (hM : Sp G l yX1_settle cX1_settle 5 (some .boolean) d2 mc2 ms2 [.ref b, v0, v1] w (QI post)) (hy : y.cls = RX8) (he : w[b]? = some (.inr (1, fs))) (hdl : d2 < d) (hk : k + mc2 ≤ mc) (hn : n + ms2 ≤ ms) (hst : (st.map fun v => v.category).sum ≤ 8) (hdg : decode cc pc = .ok (.invokevirtual 242, 3)) (kk : ∀ (x : Int32) (w2 : VW), post x w2 → R G l y cc nL ret d mc ms Q (pc + 3) lv (.int x :: st) w2 (k + mc2) (n + ms2)) : R G l y cc nL ret d mc ms Q pc lv (v1 :: v0 :: .ref b :: st) w k n := R_callV (as := [v0, v1]) (ci := 1) hM w_596 (by rw [hy]; exact w_593) w_594 w_595 w_5 ⟨by decide, by decide, by rfl⟩ hdl (by decide) hk hn hst rfl rfl he hdg (fun r w2 h => by obtain ⟨x, rfl, h⟩ := h; exact kk x w2 h)
theorem k_X1_56 {v0 : Value} {b : Nat} {d2 mc2 ms2 : Nat} {post : VW → Prop} {fs : List Value} (hM : Sp G l yX1_findLeaders cX1_findLeaders 6 none d2 mc2 ms2 [.ref b, v0] w (QV post)) (hy : y.cls = RX1) (he : w[b]? = some (.inr (1, fs))) (hdl : d2 < d) (hk : k + mc2 ≤ mc) (hn : n + ms2 ≤ ms) (hst : (st.map fun v => v.category).sum ≤ 8) (hdg : decode cc pc = .ok (.invokevirtual 56, 3)) (kk : ∀ (w2 : VW), post w2 → R G l y cc nL ret d mc ms Q (pc + 3) lv st w2 (k + mc2) (n + ms2)) : R G l y cc nL ret d mc ms Q pc lv (v0 :: .ref b :: st) w k n := R_callV (as := [v0]) (ci := 1) hM w_600 (by rw [hy]; exact w_597) w_599 ws_9 w_5 ⟨by decide, by decide, by rfl⟩ hdl (by decide) hk hn hst rfl rfl he hdg (fun r w2 h => by obtain ⟨rfl, h⟩ := h; exact kk w2 h)
theorem k_X1_75 {v0 v1 v2 : Value} {b : Nat} {d2 mc2 ms2 : Nat} {post : VW → Prop} {fs : List Value} (hM : Sp G l yX7_open cX7_open 4 none d2 mc2 ms2 [.ref b, v0, v1, v2] w (QV post)) (hy : y.cls = RX1) (he : w[b]? = some (.inr (7, fs))) (hdl : d2 < d) (hk : k + mc2 ≤ mc) (hn : n + ms2 ≤ ms) (hst : (st.map fun v => v.category).sum ≤ 8) (hdg : decode cc pc = .ok (.invokevirtual 75, 3)) (kk : ∀ (w2 : VW), post w2 → R G l y cc nL ret d mc ms Q (pc + 3) lv st w2 (k + mc2) (n + ms2)) : R G l y cc nL ret d mc ms Q pc lv (v2 :: v1 :: v0 :: .ref b :: st) w k n := R_callV (as := [v0, v1, v2]) (ci := 7) hM w_605 (by rw [hy]; exact w_602) w_603 w_604 w_6 ⟨by decide, by decide, by rfl⟩ hdl (by decide) hk hn hst rfl rfl he hdg (fun r w2 h => by obtain ⟨rfl, h⟩ := h; exact kk w2 h)
theorem k_X1_79 {v0 v1 : Value} {b : Nat} {d2 mc2 ms2 : Nat} {post : Int32 → VW → Prop} {fs : List Value} (hM : Sp G l yX3_sameNegative cX3_sameNegative 3 (some .int) d2 mc2 ms2 [.ref b, v0, v1] w (QI post)) (hy : y.cls = RX1) (he : w[b]? = some (.inr (3, fs))) (hdl : d2 < d) (hk : k + mc2 ≤ mc) (hn : n + ms2 ≤ ms) (hst : (st.map fun v => v.category).sum ≤ 8) (hdg : decode cc pc = .ok (.invokevirtual 79, 3)) (kk : ∀ (x : Int32) (w2 : VW), post x w2 → R G l y cc nL ret d mc ms Q (pc + 3) lv (.int x :: st) w2 (k + mc2) (n + ms2)) : R G l y cc nL ret d mc ms Q pc lv (v1 :: v0 :: .ref b :: st) w k n := R_callV (as := [v0, v1]) (ci := 3) hM w_440 (by rw [hy]; exact w_606) w_438 w_439 w_3 ⟨by decide, by decide, by rfl⟩ hdl (by decide) hk hn hst rfl rfl he hdg (fun r w2 h => by obtain ⟨x, rfl, h⟩ := h; exact kk x w2 h)
theorem k_X1_64 {v0 v1 : Value} {b : Nat} {d2 mc2 ms2 : Nat} {post : VW → Prop} {fs : List Value} (hM : Sp G l yX1_openPublished cX1_openPublished 5 none d2 mc2 ms2 [.ref b, v0, v1] w (QV post)) (hy : y.cls = RX1) (he : w[b]? = some (.inr (1, fs))) (hdl : d2 < d) (hk : k + mc2 ≤ mc) (hn : n + ms2 ≤ ms) (hst : (st.map fun v => v.category).sum ≤ 8) (hdg : decode cc pc = .ok (.invokevirtual 64, 3)) (kk : ∀ (w2 : VW), post w2 → R G l y cc nL ret d mc ms Q (pc + 3) lv st w2 (k + mc2) (n + ms2)) : R G l y cc nL ret d mc ms Q pc lv (v1 :: v0 :: .ref b :: st) w k n := R_callV (as := [v0, v1]) (ci := 1) hM w_610 (by rw [hy]; exact w_607) w_609 ws_10 w_5 ⟨by decide, by decide, by rfl⟩ hdl (by decide) hk hn hst rfl rfl he hdg (fun r w2 h => by obtain ⟨rfl, h⟩ := h; exact kk w2 h)
theorem k_X1_93 {v0 v1 : Value} {b : Nat} {d2 mc2 ms2 : Nat} {post : VW → Prop} {fs : List Value} (hM : Sp G l yX7_notBehind cX7_notBehind 3 none d2 mc2 ms2 [.ref b, v0, v1] w (QV post)) (hy : y.cls = RX1) (he : w[b]? = some (.inr (7, fs))) (hdl : d2 < d) (hk : k + mc2 ≤ mc) (hn : n + ms2 ≤ ms) (hst : (st.map fun v => v.category).sum ≤ 8) (hdg : decode cc pc = .ok (.invokevirtual 93, 3)) (kk : ∀ (w2 : VW), post w2 → R G l y cc nL ret d mc ms Q (pc + 3) lv st w2 (k + mc2) (n + ms2)) : R G l y cc nL ret d mc ms Q pc lv (v1 :: v0 :: .ref b :: st) w k n := R_callV (as := [v0, v1]) (ci := 7) hM w_614 (by rw [hy]; exact w_611) w_612 w_613 w_6 ⟨by decide, by decide, by rfl⟩ hdl (by decide) hk hn hst rfl rfl he hdg (fun r w2 h => by obtain ⟨rfl, h⟩ := h; exact kk w2 h)
theorem k_X1_113 {v0 v1 v2 : Value} {b : Nat} {d2 mc2 ms2 : Nat} {post : Int32 → VW → Prop} {fs : List Value} (hM : Sp G l yX4_isFor cX4_isFor 4 (some .boolean) d2 mc2 ms2 [.ref b, v0, v1, v2] w (QI post)) (hy : y.cls = RX1) (he : w[b]? = some (.inr (4, fs))) (hdl : d2 < d) (hk : k + mc2 ≤ mc) (hn : n + ms2 ≤ ms) (hst : (st.map fun v => v.category).sum ≤ 8) (hdg : decode cc pc = .ok (.invokevirtual 113, 3)) (kk : ∀ (x : Int32) (w2 : VW), post x w2 → R G l y cc nL ret d mc ms Q (pc + 3) lv (.int x :: st) w2 (k + mc2) (n + ms2)) : R G l y cc nL ret d mc ms Q pc lv (v2 :: v1 :: v0 :: .ref b :: st) w k n := R_callV (as := [v0, v1, v2]) (ci := 4) hM w_618 (by rw [hy]; exact w_615) w_616 w_617 w_9 ⟨by decide, by decide, by rfl⟩ hdl (by decide) hk hn hst rfl rfl he hdg (fun r w2 h => by obtain ⟨x, rfl, h⟩ := h; exact kk x w2 h)
theorem k_X1_120 {v0 v1 : Value} {b : Nat} {d2 mc2 ms2 : Nat} {post : VW → Prop} {fs : List Value} (hM : Sp G l yX7_notBefore cX7_notBefore 3 none d2 mc2 ms2 [.ref b, v0, v1] w (QV post)) (hy : y.cls = RX1) (he : w[b]? = some (.inr (7, fs))) (hdl : d2 < d) (hk : k + mc2 ≤ mc) (hn : n + ms2 ≤ ms) (hst : (st.map fun v => v.category).sum ≤ 8) (hdg : decode cc pc = .ok (.invokevirtual 120, 3)) (kk : ∀ (w2 : VW), post w2 → R G l y cc nL ret d mc ms Q (pc + 3) lv st w2 (k + mc2) (n + ms2)) : R G l y cc nL ret d mc ms Q pc lv (v1 :: v0 :: .ref b :: st) w k n := R_callV (as := [v0, v1]) (ci := 7) hM w_623 (by rw [hy]; exact w_620) w_621 w_622 w_6 ⟨by decide, by decide, by rfl⟩ hdl (by decide) hk hn hst rfl rfl he hdg (fun r w2 h => by obtain ⟨rfl, h⟩ := h; exact kk w2 h)
theorem k_X1_68 {v0 : Value} {b : Nat} {d2 mc2 ms2 : Nat} {post : Int32 → VW → Prop} {fs : List Value} (hM : Sp G l yX1_narrow cX1_narrow 5 (some .boolean) d2 mc2 ms2 [.ref b, v0] w (QI post)) (hy : y.cls = RX1) (he : w[b]? = some (.inr (1, fs))) (hdl : d2 < d) (hk : k + mc2 ≤ mc) (hn : n + ms2 ≤ ms) (hst : (st.map fun v => v.category).sum ≤ 8) (hdg : decode cc pc = .ok (.invokevirtual 68, 3)) (kk : ∀ (x : Int32) (w2 : VW), post x w2 → R G l y cc nL ret d mc ms Q (pc + 3) lv (.int x :: st) w2 (k + mc2) (n + ms2)) : R G l y cc nL ret d mc ms Q pc lv (v0 :: .ref b :: st) w k n := R_callV (as := [v0]) (ci := 1) hM w_627 (by rw [hy]; exact w_624) w_626 ws_11 w_5 ⟨by decide, by decide, by rfl⟩ hdl (by decide) hk hn hst rfl rfl he hdg (fun r w2 h => by obtain ⟨x, rfl, h⟩ := h; exact kk x w2 h)
theorem k_X1_130 {v0 : Value} {b : Nat} {d2 mc2 ms2 : Nat} {post : VW → Prop} {fs : List Value} (hM : Sp G l yX1_narrowByFeatures cX1_narrowByFeatures 6 none d2 mc2 ms2 [.ref b, v0] w (QV post)) (hy : y.cls = RX1) (he : w[b]? = some (.inr (1, fs))) (hdl : d2 < d) (hk : k + mc2 ≤ mc) (hn : n + ms2 ≤ ms) (hst : (st.map fun v => v.category).sum ≤ 8) (hdg : decode cc pc = .ok (.invokevirtual 130, 3)) (kk : ∀ (w2 : VW), post w2 → R G l y cc nL ret d mc ms Q (pc + 3) lv st w2 (k + mc2) (n + ms2)) : R G l y cc nL ret d mc ms Q pc lv (v0 :: .ref b :: st) w k n := R_callV (as := [v0]) (ci := 1) hM w_631 (by rw [hy]; exact w_628) w_630 ws_12 w_5 ⟨by decide, by decide, by rfl⟩ hdl (by decide) hk hn hst rfl rfl he hdg (fun r w2 h => by obtain ⟨rfl, h⟩ := h; exact kk w2 h)
theorem k_X1_72 {v0 : Value} {b : Nat} {d2 mc2 ms2 : Nat} {post : Int32 → VW → Prop} {fs : List Value} (hM : Sp G l yX1_isSomeEmpty cX1_isSomeEmpty 3 (some .boolean) d2 mc2 ms2 [.ref b, v0] w (QI post)) (hy : y.cls = RX1) (he : w[b]? = some (.inr (1, fs))) (hdl : d2 < d) (hk : k + mc2 ≤ mc) (hn : n + ms2 ≤ ms) (hst : (st.map fun v => v.category).sum ≤ 8) (hdg : decode cc pc = .ok (.invokevirtual 72, 3)) (kk : ∀ (x : Int32) (w2 : VW), post x w2 → R G l y cc nL ret d mc ms Q (pc + 3) lv (.int x :: st) w2 (k + mc2) (n + ms2)) : R G l y cc nL ret d mc ms Q pc lv (v0 :: .ref b :: st) w k n := R_callV (as := [v0]) (ci := 1) hM w_636 (by rw [hy]; exact w_633) w_635 ws_13 w_5 ⟨by decide, by decide, by rfl⟩ hdl (by decide) hk hn hst rfl rfl he hdg (fun r w2 h => by obtain ⟨x, rfl, h⟩ := h; exact kk x w2 h)
theorem k_L_92 {b : Nat} {d2 mc2 ms2 : Nat} {post : Int32 → VW → Prop} {fs : List Value} (hM : Sp G l yX8_quarrel cX8_quarrel 1 (some .int) d2 mc2 ms2 [.ref b] w (QI post)) (hy : y.cls = "ViewCardsLaw") (he : w[b]? = some (.inr (8, fs))) (hdl : d2 < d) (hk : k + mc2 ≤ mc) (hn : n + ms2 ≤ ms) (hst : (st.map fun v => v.category).sum ≤ 8) (hdg : decode cc pc = .ok (.invokevirtual 92, 3)) (kk : ∀ (x : Int32) (w2 : VW), post x w2 → R G l y cc nL ret d mc ms Q (pc + 3) lv (.int x :: st) w2 (k + mc2) (n + ms2)) : R G l y cc nL ret d mc ms Q pc lv (.ref b :: st) w k n := R_callV (as := []) (ci := 8) hM w_640 (by rw [hy]; exact w_637) w_638 w_639 w_1 ⟨by decide, by decide, by rfl⟩ hdl (by decide) hk hn hst rfl rfl he hdg (fun r w2 h => by obtain ⟨x, rfl, h⟩ := h; exact kk x w2 h)
theorem k_L_97 {b : Nat} {d2 mc2 ms2 : Nat} {post : Int32 → VW → Prop} {fs : List Value} (hM : Sp G l yX8_culprit cX8_culprit 3 (some .int) d2 mc2 ms2 [.ref b] w (QI post)) (hy : y.cls = "ViewCardsLaw") (he : w[b]? = some (.inr (8, fs))) (hdl : d2 < d) (hk : k + mc2 ≤ mc) (hn : n + ms2 ≤ ms) (hst : (st.map fun v => v.category).sum ≤ 8) (hdg : decode cc pc = .ok (.invokevirtual 97, 3)) (kk : ∀ (x : Int32) (w2 : VW), post x w2 → R G l y cc nL ret d mc ms Q (pc + 3) lv (.int x :: st) w2 (k + mc2) (n + ms2)) : R G l y cc nL ret d mc ms Q pc lv (.ref b :: st) w k n := R_callV (as := []) (ci := 8) hM w_644 (by rw [hy]; exact w_641) w_642 w_643 w_1 ⟨by decide, by decide, by rfl⟩ hdl (by decide) hk hn hst rfl rfl he hdg (fun r w2 h => by obtain ⟨x, rfl, h⟩ := h; exact kk x w2 h)
theorem k_L_101 {v0 v1 : Value} {b : Nat} {d2 mc2 ms2 : Nat} {post : Int32 → VW → Prop} {fs : List Value} (hM : Sp G l yX8_landmark cX8_landmark 3 (some .int) d2 mc2 ms2 [.ref b, v0, v1] w (QI post)) (hy : y.cls = "ViewCardsLaw") (he : w[b]? = some (.inr (8, fs))) (hdl : d2 < d) (hk : k + mc2 ≤ mc) (hn : n + ms2 ≤ ms) (hst : (st.map fun v => v.category).sum ≤ 8) (hdg : decode cc pc = .ok (.invokevirtual 101, 3)) (kk : ∀ (x : Int32) (w2 : VW), post x w2 → R G l y cc nL ret d mc ms Q (pc + 3) lv (.int x :: st) w2 (k + mc2) (n + ms2)) : R G l y cc nL ret d mc ms Q pc lv (v1 :: v0 :: .ref b :: st) w k n := R_callV (as := [v0, v1]) (ci := 8) hM w_648 (by rw [hy]; exact w_645) w_646 w_647 w_1 ⟨by decide, by decide, by rfl⟩ hdl (by decide) hk hn hst rfl rfl he hdg (fun r w2 h => by obtain ⟨x, rfl, h⟩ := h; exact kk x w2 h)
theorem k_L_105 {v0 : Value} {b : Nat} {d2 mc2 ms2 : Nat} {post : Int32 → VW → Prop} {fs : List Value} (hM : Sp G l yX8_walls cX8_walls 3 (some .int) d2 mc2 ms2 [.ref b, v0] w (QI post)) (hy : y.cls = "ViewCardsLaw") (he : w[b]? = some (.inr (8, fs))) (hdl : d2 < d) (hk : k + mc2 ≤ mc) (hn : n + ms2 ≤ ms) (hst : (st.map fun v => v.category).sum ≤ 8) (hdg : decode cc pc = .ok (.invokevirtual 105, 3)) (kk : ∀ (x : Int32) (w2 : VW), post x w2 → R G l y cc nL ret d mc ms Q (pc + 3) lv (.int x :: st) w2 (k + mc2) (n + ms2)) : R G l y cc nL ret d mc ms Q pc lv (v0 :: .ref b :: st) w k n := R_callV (as := [v0]) (ci := 8) hM w_652 (by rw [hy]; exact w_649) w_650 w_651 w_1 ⟨by decide, by decide, by rfl⟩ hdl (by decide) hk hn hst rfl rfl he hdg (fun r w2 h => by obtain ⟨x, rfl, h⟩ := h; exact kk x w2 h)
theorem k_L_110 {v0 v1 : Value} {b : Nat} {d2 mc2 ms2 : Nat} {post : Int32 → VW → Prop} {fs : List Value} (hM : Sp G l yX8_view cX8_view 3 (some .int) d2 mc2 ms2 [.ref b, v0, v1] w (QI post)) (hy : y.cls = "ViewCardsLaw") (he : w[b]? = some (.inr (8, fs))) (hdl : d2 < d) (hk : k + mc2 ≤ mc) (hn : n + ms2 ≤ ms) (hst : (st.map fun v => v.category).sum ≤ 8) (hdg : decode cc pc = .ok (.invokevirtual 110, 3)) (kk : ∀ (x : Int32) (w2 : VW), post x w2 → R G l y cc nL ret d mc ms Q (pc + 3) lv (.int x :: st) w2 (k + mc2) (n + ms2)) : R G l y cc nL ret d mc ms Q pc lv (v1 :: v0 :: .ref b :: st) w k n := R_callV (as := [v0, v1]) (ci := 8) hM w_656 (by rw [hy]; exact w_653) w_654 w_655 w_1 ⟨by decide, by decide, by rfl⟩ hdl (by decide) hk hn hst rfl rfl he hdg (fun r w2 h => by obtain ⟨x, rfl, h⟩ := h; exact kk x w2 h)
theorem k_X8_271 {v0 v1 : Value} {b : Nat} {d2 mc2 ms2 : Nat} {post : Int32 → VW → Prop} {fs : List Value} (hM : Sp G l yX2_isInView cX2_isInView 4 (some .boolean) d2 mc2 ms2 [.ref b, v0, v1] w (QI post)) (hy : y.cls = RX8) (he : w[b]? = some (.inr (2, fs))) (hdl : d2 < d) (hk : k + mc2 ≤ mc) (hn : n + ms2 ≤ ms) (hst : (st.map fun v => v.category).sum ≤ 8) (hdg : decode cc pc = .ok (.invokevirtual 271, 3)) (kk : ∀ (x : Int32) (w2 : VW), post x w2 → R G l y cc nL ret d mc ms Q (pc + 3) lv (.int x :: st) w2 (k + mc2) (n + ms2)) : R G l y cc nL ret d mc ms Q pc lv (v1 :: v0 :: .ref b :: st) w k n := R_callV (as := [v0, v1]) (ci := 2) hM w_660 (by rw [hy]; exact w_657) w_658 w_659 w_7 ⟨by decide, by decide, by rfl⟩ hdl (by decide) hk hn hst rfl rfl he hdg (fun r w2 h => by obtain ⟨x, rfl, h⟩ := h; exact kk x w2 h)
theorem k_L_114 {v0 : Value} {b : Nat} {d2 mc2 ms2 : Nat} {post : Int32 → VW → Prop} {fs : List Value} (hM : Sp G l yX8_unview cX8_unview 3 (some .int) d2 mc2 ms2 [.ref b, v0] w (QI post)) (hy : y.cls = "ViewCardsLaw") (he : w[b]? = some (.inr (8, fs))) (hdl : d2 < d) (hk : k + mc2 ≤ mc) (hn : n + ms2 ≤ ms) (hst : (st.map fun v => v.category).sum ≤ 8) (hdg : decode cc pc = .ok (.invokevirtual 114, 3)) (kk : ∀ (x : Int32) (w2 : VW), post x w2 → R G l y cc nL ret d mc ms Q (pc + 3) lv (.int x :: st) w2 (k + mc2) (n + ms2)) : R G l y cc nL ret d mc ms Q pc lv (v0 :: .ref b :: st) w k n := R_callV (as := [v0]) (ci := 8) hM w_664 (by rw [hy]; exact w_661) w_662 w_663 w_1 ⟨by decide, by decide, by rfl⟩ hdl (by decide) hk hn hst rfl rfl he hdg (fun r w2 h => by obtain ⟨x, rfl, h⟩ := h; exact kk x w2 h)
theorem k_L_118 {v0 : Value} {b : Nat} {d2 mc2 ms2 : Nat} {post : Int64 → VW → Prop} {fs : List Value} (hM : Sp G l yX8_stood cX8_stood 2 (some .long) d2 mc2 ms2 [.ref b, v0] w (QL post)) (hy : y.cls = "ViewCardsLaw") (he : w[b]? = some (.inr (8, fs))) (hdl : d2 < d) (hk : k + mc2 ≤ mc) (hn : n + ms2 ≤ ms) (hst : (st.map fun v => v.category).sum ≤ 8) (hdg : decode cc pc = .ok (.invokevirtual 118, 3)) (kk : ∀ (x : Int64) (w2 : VW), post x w2 → R G l y cc nL ret d mc ms Q (pc + 3) lv (.long x :: st) w2 (k + mc2) (n + ms2)) : R G l y cc nL ret d mc ms Q pc lv (v0 :: .ref b :: st) w k n := R_callV (as := [v0]) (ci := 8) hM w_668 (by rw [hy]; exact w_665) w_666 w_667 w_1 ⟨by decide, by decide, by rfl⟩ hdl (by decide) hk hn hst rfl rfl he hdg (fun r w2 h => by obtain ⟨x, rfl, h⟩ := h; exact kk x w2 h)
theorem k_X8_280 {v0 : Value} {b : Nat} {d2 mc2 ms2 : Nat} {post : Int64 → VW → Prop} {fs : List Value} (hM : Sp G l yX2_standing cX2_standing 7 (some .long) d2 mc2 ms2 [.ref b, v0] w (QL post)) (hy : y.cls = RX8) (he : w[b]? = some (.inr (2, fs))) (hdl : d2 < d) (hk : k + mc2 ≤ mc) (hn : n + ms2 ≤ ms) (hst : (st.map fun v => v.category).sum ≤ 8) (hdg : decode cc pc = .ok (.invokevirtual 280, 3)) (kk : ∀ (x : Int64) (w2 : VW), post x w2 → R G l y cc nL ret d mc ms Q (pc + 3) lv (.long x :: st) w2 (k + mc2) (n + ms2)) : R G l y cc nL ret d mc ms Q pc lv (v0 :: .ref b :: st) w k n := R_callV (as := [v0]) (ci := 2) hM w_672 (by rw [hy]; exact w_669) w_670 w_671 w_7 ⟨by decide, by decide, by rfl⟩ hdl (by decide) hk hn hst rfl rfl he hdg (fun r w2 h => by obtain ⟨x, rfl, h⟩ := h; exact kk x w2 h)
theorem k_X2_29 {v0 v1 : Value} {b : Nat} {d2 mc2 ms2 : Nat} {post : Int32 → VW → Prop} {fs : List Value} (hM : Sp G l yX2_isOrdered cX2_isOrdered 5 (some .boolean) d2 mc2 ms2 [.ref b, v0, v1] w (QI post)) (hy : y.cls = RX2) (he : w[b]? = some (.inr (2, fs))) (hdl : d2 < d) (hk : k + mc2 ≤ mc) (hn : n + ms2 ≤ ms) (hst : (st.map fun v => v.category).sum ≤ 8) (hdg : decode cc pc = .ok (.invokevirtual 29, 3)) (kk : ∀ (x : Int32) (w2 : VW), post x w2 → R G l y cc nL ret d mc ms Q (pc + 3) lv (.int x :: st) w2 (k + mc2) (n + ms2)) : R G l y cc nL ret d mc ms Q pc lv (v1 :: v0 :: .ref b :: st) w k n := R_callV (as := [v0, v1]) (ci := 2) hM w_677 (by rw [hy]; exact w_674) w_676 ws_14 w_7 ⟨by decide, by decide, by rfl⟩ hdl (by decide) hk hn hst rfl rfl he hdg (fun r w2 h => by obtain ⟨x, rfl, h⟩ := h; exact kk x w2 h)
theorem k_X2_36 {v0 v1 v2 : Value} {d2 mc2 ms2 : Nat} {post : Int32 → VW → Prop} (hM : Sp G l yX2_isLeftOf cX2_isLeftOf 7 (some .boolean) d2 mc2 ms2 [v0, v1, v2] w (QI post)) (hy : y.cls = RX2) (hdl : d2 < d) (hk : k + mc2 ≤ mc) (hn : n + ms2 ≤ ms) (hst : (st.map fun v => v.category).sum ≤ 8) (hdg : decode cc pc = .ok (.invokestatic 36, 3)) (kk : ∀ (x : Int32) (w2 : VW), post x w2 → R G l y cc nL ret d mc ms Q (pc + 3) lv (.int x :: st) w2 (k + mc2) (n + ms2)) : R G l y cc nL ret d mc ms Q pc lv (v2 :: v1 :: v0 :: st) w k n := R_callS (as := [v0, v1, v2]) hM w_680 (by rw [hy]; exact w_678) w_679 w_7 ⟨by decide, by decide, by rfl⟩ hdl (by decide) hk hn hst hdg (fun r w2 h => by obtain ⟨x, rfl, h⟩ := h; exact kk x w2 h)
theorem k_X2_33 {v0 v1 : Value} {b : Nat} {d2 mc2 ms2 : Nat} {post : Int32 → VW → Prop} {fs : List Value} (hM : Sp G l yX2_seesAll cX2_seesAll 4 (some .boolean) d2 mc2 ms2 [.ref b, v0, v1] w (QI post)) (hy : y.cls = RX2) (he : w[b]? = some (.inr (2, fs))) (hdl : d2 < d) (hk : k + mc2 ≤ mc) (hn : n + ms2 ≤ ms) (hst : (st.map fun v => v.category).sum ≤ 8) (hdg : decode cc pc = .ok (.invokevirtual 33, 3)) (kk : ∀ (x : Int32) (w2 : VW), post x w2 → R G l y cc nL ret d mc ms Q (pc + 3) lv (.int x :: st) w2 (k + mc2) (n + ms2)) : R G l y cc nL ret d mc ms Q pc lv (v1 :: v0 :: .ref b :: st) w k n := R_callV (as := [v0, v1]) (ci := 2) hM w_684 (by rw [hy]; exact w_681) w_683 ws_15 w_7 ⟨by decide, by decide, by rfl⟩ hdl (by decide) hk hn hst rfl rfl he hdg (fun r w2 h => by obtain ⟨x, rfl, h⟩ := h; exact kk x w2 h)
theorem k_X2_40 {v0 v1 : Value} {b : Nat} {d2 mc2 ms2 : Nat} {post : Int32 → VW → Prop} {fs : List Value} (hM : Sp G l yX2_sees cX2_sees 8 (some .boolean) d2 mc2 ms2 [.ref b, v0, v1] w (QI post)) (hy : y.cls = RX2) (he : w[b]? = some (.inr (2, fs))) (hdl : d2 < d) (hk : k + mc2 ≤ mc) (hn : n + ms2 ≤ ms) (hst : (st.map fun v => v.category).sum ≤ 8) (hdg : decode cc pc = .ok (.invokevirtual 40, 3)) (kk : ∀ (x : Int32) (w2 : VW), post x w2 → R G l y cc nL ret d mc ms Q (pc + 3) lv (.int x :: st) w2 (k + mc2) (n + ms2)) : R G l y cc nL ret d mc ms Q pc lv (v1 :: v0 :: .ref b :: st) w k n := R_callV (as := [v0, v1]) (ci := 2) hM w_688 (by rw [hy]; exact w_685) w_687 ws_16 w_7 ⟨by decide, by decide, by rfl⟩ hdl (by decide) hk hn hst rfl rfl he hdg (fun r w2 h => by obtain ⟨x, rfl, h⟩ := h; exact kk x w2 h)
theorem k_L_123 {v0 : Value} {b : Nat} {d2 mc2 ms2 : Nat} {post : Int32 → VW → Prop} {fs : List Value} (hM : Sp G l yX8_together cX8_together 6 (some .int) d2 mc2 ms2 [.ref b, v0] w (QI post)) (hy : y.cls = "ViewCardsLaw") (he : w[b]? = some (.inr (8, fs))) (hdl : d2 < d) (hk : k + mc2 ≤ mc) (hn : n + ms2 ≤ ms) (hst : (st.map fun v => v.category).sum ≤ 8) (hdg : decode cc pc = .ok (.invokevirtual 123, 3)) (kk : ∀ (x : Int32) (w2 : VW), post x w2 → R G l y cc nL ret d mc ms Q (pc + 3) lv (.int x :: st) w2 (k + mc2) (n + ms2)) : R G l y cc nL ret d mc ms Q pc lv (v0 :: .ref b :: st) w k n := R_callV (as := [v0]) (ci := 8) hM w_696 (by rw [hy]; exact w_693) w_694 w_695 w_1 ⟨by decide, by decide, by rfl⟩ hdl (by decide) hk hn hst rfl rfl he hdg (fun r w2 h => by obtain ⟨x, rfl, h⟩ := h; exact kk x w2 h)
theorem k_X8_286 {v0 : Value} {d2 mc2 ms2 : Nat} {post : Int32 → VW → Prop} (hM : Sp G l yJ13_bitCount_95d88 cJ13_bitCount_95d88 2 (some .int) d2 mc2 ms2 [v0] w (QI post)) (hy : y.cls = RX8) (hdl : d2 < d) (hk : k + mc2 ≤ mc) (hn : n + ms2 ≤ ms) (hst : (st.map fun v => v.category).sum ≤ 8) (hdg : decode cc pc = .ok (.invokestatic 286, 3)) (kk : ∀ (x : Int32) (w2 : VW), post x w2 → R G l y cc nL ret d mc ms Q (pc + 3) lv (.int x :: st) w2 (k + mc2) (n + ms2)) : R G l y cc nL ret d mc ms Q pc lv (v0 :: st) w k n := R_callS (as := [v0]) hM w_381 (by rw [hy]; exact w_698) w_380 w_12 ⟨by decide, by decide, by rfl⟩ hdl (by decide) hk hn hst hdg (fun r w2 h => by obtain ⟨x, rfl, h⟩ := h; exact kk x w2 h)
theorem k_L_127 {v0 v1 : Value} {b : Nat} {d2 mc2 ms2 : Nat} {post : Int32 → VW → Prop} {fs : List Value} (hM : Sp G l yX8_write cX8_write 5 (some .int) d2 mc2 ms2 [.ref b, v0, v1] w (QI post)) (hy : y.cls = "ViewCardsLaw") (he : w[b]? = some (.inr (8, fs))) (hdl : d2 < d) (hk : k + mc2 ≤ mc) (hn : n + ms2 ≤ ms) (hst : (st.map fun v => v.category).sum ≤ 8) (hdg : decode cc pc = .ok (.invokevirtual 127, 3)) (kk : ∀ (x : Int32) (w2 : VW), post x w2 → R G l y cc nL ret d mc ms Q (pc + 3) lv (.int x :: st) w2 (k + mc2) (n + ms2)) : R G l y cc nL ret d mc ms Q pc lv (v1 :: v0 :: .ref b :: st) w k n := R_callV (as := [v0, v1]) (ci := 8) hM w_702 (by rw [hy]; exact w_699) w_700 w_701 w_1 ⟨by decide, by decide, by rfl⟩ hdl (by decide) hk hn hst rfl rfl he hdg (fun r w2 h => by obtain ⟨x, rfl, h⟩ := h; exact kk x w2 h)
theorem k_L_132 {b : Nat} {d2 mc2 ms2 : Nat} {post : Int32 → VW → Prop} {fs : List Value} (hM : Sp G l yX8_erase cX8_erase 2 (some .int) d2 mc2 ms2 [.ref b] w (QI post)) (hy : y.cls = "ViewCardsLaw") (he : w[b]? = some (.inr (8, fs))) (hdl : d2 < d) (hk : k + mc2 ≤ mc) (hn : n + ms2 ≤ ms) (hst : (st.map fun v => v.category).sum ≤ 8) (hdg : decode cc pc = .ok (.invokevirtual 132, 3)) (kk : ∀ (x : Int32) (w2 : VW), post x w2 → R G l y cc nL ret d mc ms Q (pc + 3) lv (.int x :: st) w2 (k + mc2) (n + ms2)) : R G l y cc nL ret d mc ms Q pc lv (.ref b :: st) w k n := R_callV (as := []) (ci := 8) hM w_706 (by rw [hy]; exact w_703) w_704 w_705 w_1 ⟨by decide, by decide, by rfl⟩ hdl (by decide) hk hn hst rfl rfl he hdg (fun r w2 h => by obtain ⟨x, rfl, h⟩ := h; exact kk x w2 h)
theorem k_L_136 {b : Nat} {d2 mc2 ms2 : Nat} {post : Int32 → VW → Prop} {fs : List Value} (hM : Sp G l yX8_fault cX8_fault 1 (some .int) d2 mc2 ms2 [.ref b] w (QI post)) (hy : y.cls = "ViewCardsLaw") (he : w[b]? = some (.inr (8, fs))) (hdl : d2 < d) (hk : k + mc2 ≤ mc) (hn : n + ms2 ≤ ms) (hst : (st.map fun v => v.category).sum ≤ 8) (hdg : decode cc pc = .ok (.invokevirtual 136, 3)) (kk : ∀ (x : Int32) (w2 : VW), post x w2 → R G l y cc nL ret d mc ms Q (pc + 3) lv (.int x :: st) w2 (k + mc2) (n + ms2)) : R G l y cc nL ret d mc ms Q pc lv (.ref b :: st) w k n := R_callV (as := []) (ci := 8) hM w_710 (by rw [hy]; exact w_707) w_708 w_709 w_1 ⟨by decide, by decide, by rfl⟩ hdl (by decide) hk hn hst rfl rfl he hdg (fun r w2 h => by obtain ⟨x, rfl, h⟩ := h; exact kk x w2 h)
theorem k_X8_295 {v0 : Value} {b : Nat} {d2 mc2 ms2 : Nat} {post : Int32 → VW → Prop} {fs : List Value} (hM : Sp G l yX6_read cX6_read 3 (some .int) d2 mc2 ms2 [.ref b, v0] w (QI post)) (hy : y.cls = RX8) (he : w[b]? = some (.inr (6, fs))) (hdl : d2 < d) (hk : k + mc2 ≤ mc) (hn : n + ms2 ≤ ms) (hst : (st.map fun v => v.category).sum ≤ 8) (hdg : decode cc pc = .ok (.invokevirtual 295, 3)) (kk : ∀ (x : Int32) (w2 : VW), post x w2 → R G l y cc nL ret d mc ms Q (pc + 3) lv (.int x :: st) w2 (k + mc2) (n + ms2)) : R G l y cc nL ret d mc ms Q pc lv (v0 :: .ref b :: st) w k n := R_callV (as := [v0]) (ci := 6) hM w_714 (by rw [hy]; exact w_711) w_712 w_713 w_8 ⟨by decide, by decide, by rfl⟩ hdl (by decide) hk hn hst rfl rfl he hdg (fun r w2 h => by obtain ⟨x, rfl, h⟩ := h; exact kk x w2 h)
theorem k_X6_27 {b : Nat} {d2 mc2 ms2 : Nat} {post : VW → Prop} {fs : List Value} (hM : Sp G l yX6_goOn cX6_goOn 1 none d2 mc2 ms2 [.ref b] w (QV post)) (hy : y.cls = RX6) (he : w[b]? = some (.inr (6, fs))) (hdl : d2 < d) (hk : k + mc2 ≤ mc) (hn : n + ms2 ≤ ms) (hst : (st.map fun v => v.category).sum ≤ 8) (hdg : decode cc pc = .ok (.invokevirtual 27, 3)) (kk : ∀ (w2 : VW), post w2 → R G l y cc nL ret d mc ms Q (pc + 3) lv st w2 (k + mc2) (n + ms2)) : R G l y cc nL ret d mc ms Q pc lv (.ref b :: st) w k n := R_callV (as := []) (ci := 6) hM w_718 (by rw [hy]; exact w_715) w_717 ws_17 w_8 ⟨by decide, by decide, by rfl⟩ hdl (by decide) hk hn hst rfl rfl he hdg (fun r w2 h => by obtain ⟨rfl, h⟩ := h; exact kk w2 h)
theorem k_X6_110 {v0 v1 : Value} {d2 mc2 ms2 : Nat} {post : Int32 → VW → Prop} (hM : Sp G l yX6_isOneRow cX6_isOneRow 2 (some .boolean) d2 mc2 ms2 [v0, v1] w (QI post)) (hy : y.cls = RX6) (hdl : d2 < d) (hk : k + mc2 ≤ mc) (hn : n + ms2 ≤ ms) (hst : (st.map fun v => v.category).sum ≤ 8) (hdg : decode cc pc = .ok (.invokestatic 110, 3)) (kk : ∀ (x : Int32) (w2 : VW), post x w2 → R G l y cc nL ret d mc ms Q (pc + 3) lv (.int x :: st) w2 (k + mc2) (n + ms2)) : R G l y cc nL ret d mc ms Q pc lv (v1 :: v0 :: st) w k n := R_callS (as := [v0, v1]) hM w_722 (by rw [hy]; exact w_720) w_721 w_8 ⟨by decide, by decide, by rfl⟩ hdl (by decide) hk hn hst hdg (fun r w2 h => by obtain ⟨x, rfl, h⟩ := h; exact kk x w2 h)
theorem k_X6_30 {v0 : Value} {b : Nat} {d2 mc2 ms2 : Nat} {post : VW → Prop} {fs : List Value} (hM : Sp G l yX6_readLine cX6_readLine 8 none d2 mc2 ms2 [.ref b, v0] w (QV post)) (hy : y.cls = RX6) (he : w[b]? = some (.inr (6, fs))) (hdl : d2 < d) (hk : k + mc2 ≤ mc) (hn : n + ms2 ≤ ms) (hst : (st.map fun v => v.category).sum ≤ 8) (hdg : decode cc pc = .ok (.invokevirtual 30, 3)) (kk : ∀ (w2 : VW), post w2 → R G l y cc nL ret d mc ms Q (pc + 3) lv st w2 (k + mc2) (n + ms2)) : R G l y cc nL ret d mc ms Q pc lv (v0 :: .ref b :: st) w k n := R_callV (as := [v0]) (ci := 6) hM w_730 (by rw [hy]; exact w_727) w_729 ws_18 w_8 ⟨by decide, by decide, by rfl⟩ hdl (by decide) hk hn hst rfl rfl he hdg (fun r w2 h => by obtain ⟨rfl, h⟩ := h; exact kk w2 h)
theorem k_X6_49 {v0 : Value} {b : Nat} {d2 mc2 ms2 : Nat} {post : VW → Prop} {fs : List Value} (hM : Sp G l yX6_readWord cX6_readWord 2 none d2 mc2 ms2 [.ref b, v0] w (QV post)) (hy : y.cls = RX6) (he : w[b]? = some (.inr (6, fs))) (hdl : d2 < d) (hk : k + mc2 ≤ mc) (hn : n + ms2 ≤ ms) (hst : (st.map fun v => v.category).sum ≤ 8) (hdg : decode cc pc = .ok (.invokevirtual 49, 3)) (kk : ∀ (w2 : VW), post w2 → R G l y cc nL ret d mc ms Q (pc + 3) lv st w2 (k + mc2) (n + ms2)) : R G l y cc nL ret d mc ms Q pc lv (v0 :: .ref b :: st) w k n := R_callV (as := [v0]) (ci := 6) hM w_735 (by rw [hy]; exact w_732) w_734 ws_19 w_8 ⟨by decide, by decide, by rfl⟩ hdl (by decide) hk hn hst rfl rfl he hdg (fun r w2 h => by obtain ⟨rfl, h⟩ := h; exact kk w2 h)
theorem k_X6_36 {v0 : Value} {b : Nat} {d2 mc2 ms2 : Nat} {post : Int32 → VW → Prop} {fs : List Value} (hM : Sp G l yX6_isAt cX6_isAt 3 (some .boolean) d2 mc2 ms2 [.ref b, v0] w (QI post)) (hy : y.cls = RX6) (he : w[b]? = some (.inr (6, fs))) (hdl : d2 < d) (hk : k + mc2 ≤ mc) (hn : n + ms2 ≤ ms) (hst : (st.map fun v => v.category).sum ≤ 8) (hdg : decode cc pc = .ok (.invokevirtual 36, 3)) (kk : ∀ (x : Int32) (w2 : VW), post x w2 → R G l y cc nL ret d mc ms Q (pc + 3) lv (.int x :: st) w2 (k + mc2) (n + ms2)) : R G l y cc nL ret d mc ms Q pc lv (v0 :: .ref b :: st) w k n := R_callV (as := [v0]) (ci := 6) hM w_739 (by rw [hy]; exact w_736) w_738 ws_20 w_8 ⟨by decide, by decide, by rfl⟩ hdl (by decide) hk hn hst rfl rfl he hdg (fun r w2 h => by obtain ⟨x, rfl, h⟩ := h; exact kk x w2 h)
theorem k_X6_44 {b : Nat} {d2 mc2 ms2 : Nat} {post : VW → Prop} {fs : List Value} (hM : Sp G l yX6_findWrong cX6_findWrong 1 none d2 mc2 ms2 [.ref b] w (QV post)) (hy : y.cls = RX6) (he : w[b]? = some (.inr (6, fs))) (hdl : d2 < d) (hk : k + mc2 ≤ mc) (hn : n + ms2 ≤ ms) (hst : (st.map fun v => v.category).sum ≤ 8) (hdg : decode cc pc = .ok (.invokevirtual 44, 3)) (kk : ∀ (w2 : VW), post w2 → R G l y cc nL ret d mc ms Q (pc + 3) lv st w2 (k + mc2) (n + ms2)) : R G l y cc nL ret d mc ms Q pc lv (.ref b :: st) w k n := R_callV (as := []) (ci := 6) hM w_791 (by rw [hy]; exact w_788) w_790 ws_21 w_8 ⟨by decide, by decide, by rfl⟩ hdl (by decide) hk hn hst rfl rfl he hdg (fun r w2 h => by obtain ⟨rfl, h⟩ := h; exact kk w2 h)
theorem k_X6_53 {v0 v1 : Value} {b : Nat} {d2 mc2 ms2 : Nat} {post : Int32 → VW → Prop} {fs : List Value} (hM : Sp G l yX6_readNumber cX6_readNumber 4 (some .int) d2 mc2 ms2 [.ref b, v0, v1] w (QI post)) (hy : y.cls = RX6) (he : w[b]? = some (.inr (6, fs))) (hdl : d2 < d) (hk : k + mc2 ≤ mc) (hn : n + ms2 ≤ ms) (hst : (st.map fun v => v.category).sum ≤ 8) (hdg : decode cc pc = .ok (.invokevirtual 53, 3)) (kk : ∀ (x : Int32) (w2 : VW), post x w2 → R G l y cc nL ret d mc ms Q (pc + 3) lv (.int x :: st) w2 (k + mc2) (n + ms2)) : R G l y cc nL ret d mc ms Q pc lv (v1 :: v0 :: .ref b :: st) w k n := R_callV (as := [v0, v1]) (ci := 6) hM w_795 (by rw [hy]; exact w_792) w_794 ws_22 w_8 ⟨by decide, by decide, by rfl⟩ hdl (by decide) hk hn hst rfl rfl he hdg (fun r w2 h => by obtain ⟨x, rfl, h⟩ := h; exact kk x w2 h)
theorem k_X6_84 {b : Nat} {d2 mc2 ms2 : Nat} {post : Int32 → VW → Prop} {fs : List Value} (hM : Sp G l yX6_numberAt cX6_numberAt 4 (some .int) d2 mc2 ms2 [.ref b] w (QI post)) (hy : y.cls = RX6) (he : w[b]? = some (.inr (6, fs))) (hdl : d2 < d) (hk : k + mc2 ≤ mc) (hn : n + ms2 ≤ ms) (hst : (st.map fun v => v.category).sum ≤ 8) (hdg : decode cc pc = .ok (.invokevirtual 84, 3)) (kk : ∀ (x : Int32) (w2 : VW), post x w2 → R G l y cc nL ret d mc ms Q (pc + 3) lv (.int x :: st) w2 (k + mc2) (n + ms2)) : R G l y cc nL ret d mc ms Q pc lv (.ref b :: st) w k n := R_callV (as := []) (ci := 6) hM w_799 (by rw [hy]; exact w_796) w_798 ws_23 w_8 ⟨by decide, by decide, by rfl⟩ hdl (by decide) hk hn hst rfl rfl he hdg (fun r w2 h => by obtain ⟨x, rfl, h⟩ := h; exact kk x w2 h)
theorem k_L_140 {b : Nat} {d2 mc2 ms2 : Nat} {post : Int32 → VW → Prop} {fs : List Value} (hM : Sp G l yX8_catalogue cX8_catalogue 2 (some .int) d2 mc2 ms2 [.ref b] w (QI post)) (hy : y.cls = "ViewCardsLaw") (he : w[b]? = some (.inr (8, fs))) (hdl : d2 < d) (hk : k + mc2 ≤ mc) (hn : n + ms2 ≤ ms) (hst : (st.map fun v => v.category).sum ≤ 8) (hdg : decode cc pc = .ok (.invokevirtual 140, 3)) (kk : ∀ (x : Int32) (w2 : VW), post x w2 → R G l y cc nL ret d mc ms Q (pc + 3) lv (.int x :: st) w2 (k + mc2) (n + ms2)) : R G l y cc nL ret d mc ms Q pc lv (.ref b :: st) w k n := R_callV (as := []) (ci := 8) hM w_810 (by rw [hy]; exact w_807) w_808 w_809 w_1 ⟨by decide, by decide, by rfl⟩ hdl (by decide) hk hn hst rfl rfl he hdg (fun r w2 h => by obtain ⟨x, rfl, h⟩ := h; exact kk x w2 h)
theorem k_L_144 {v0 : Value} {b : Nat} {d2 mc2 ms2 : Nat} {post : Int32 → VW → Prop} {fs : List Value} (hM : Sp G l yX8_breaks cX8_breaks 7 (some .int) d2 mc2 ms2 [.ref b, v0] w (QI post)) (hy : y.cls = "ViewCardsLaw") (he : w[b]? = some (.inr (8, fs))) (hdl : d2 < d) (hk : k + mc2 ≤ mc) (hn : n + ms2 ≤ ms) (hst : (st.map fun v => v.category).sum ≤ 8) (hdg : decode cc pc = .ok (.invokevirtual 144, 3)) (kk : ∀ (x : Int32) (w2 : VW), post x w2 → R G l y cc nL ret d mc ms Q (pc + 3) lv (.int x :: st) w2 (k + mc2) (n + ms2)) : R G l y cc nL ret d mc ms Q pc lv (v0 :: .ref b :: st) w k n := R_callV (as := [v0]) (ci := 8) hM w_814 (by rw [hy]; exact w_811) w_812 w_813 w_1 ⟨by decide, by decide, by rfl⟩ hdl (by decide) hk hn hst rfl rfl he hdg (fun r w2 h => by obtain ⟨x, rfl, h⟩ := h; exact kk x w2 h)
theorem k_X8_304 {v0 v1 v2 : Value} {b : Nat} {d2 mc2 ms2 : Nat} {post : Int32 → VW → Prop} {fs : List Value} (hM : Sp G l yX4_isFor cX4_isFor 4 (some .boolean) d2 mc2 ms2 [.ref b, v0, v1, v2] w (QI post)) (hy : y.cls = RX8) (he : w[b]? = some (.inr (4, fs))) (hdl : d2 < d) (hk : k + mc2 ≤ mc) (hn : n + ms2 ≤ ms) (hst : (st.map fun v => v.category).sum ≤ 8) (hdg : decode cc pc = .ok (.invokevirtual 304, 3)) (kk : ∀ (x : Int32) (w2 : VW), post x w2 → R G l y cc nL ret d mc ms Q (pc + 3) lv (.int x :: st) w2 (k + mc2) (n + ms2)) : R G l y cc nL ret d mc ms Q pc lv (v2 :: v1 :: v0 :: .ref b :: st) w k n := R_callV (as := [v0, v1, v2]) (ci := 4) hM w_618 (by rw [hy]; exact w_815) w_616 w_617 w_9 ⟨by decide, by decide, by rfl⟩ hdl (by decide) hk hn hst rfl rfl he hdg (fun r w2 h => by obtain ⟨x, rfl, h⟩ := h; exact kk x w2 h)
theorem k_X8_313 {v0 v1 v2 : Value} {b : Nat} {d2 mc2 ms2 : Nat} {post : Int32 → VW → Prop} {fs : List Value} (hM : Sp G l yX1_canBePublished cX1_canBePublished 4 (some .boolean) d2 mc2 ms2 [.ref b, v0, v1, v2] w (QI post)) (hy : y.cls = RX8) (he : w[b]? = some (.inr (1, fs))) (hdl : d2 < d) (hk : k + mc2 ≤ mc) (hn : n + ms2 ≤ ms) (hst : (st.map fun v => v.category).sum ≤ 8) (hdg : decode cc pc = .ok (.invokevirtual 313, 3)) (kk : ∀ (x : Int32) (w2 : VW), post x w2 → R G l y cc nL ret d mc ms Q (pc + 3) lv (.int x :: st) w2 (k + mc2) (n + ms2)) : R G l y cc nL ret d mc ms Q pc lv (v2 :: v1 :: v0 :: .ref b :: st) w k n := R_callV (as := [v0, v1, v2]) (ci := 1) hM w_819 (by rw [hy]; exact w_816) w_817 w_818 w_5 ⟨by decide, by decide, by rfl⟩ hdl (by decide) hk hn hst rfl rfl he hdg (fun r w2 h => by obtain ⟨x, rfl, h⟩ := h; exact kk x w2 h)
theorem k_L_148 {v0 : Value} {b : Nat} {d2 mc2 ms2 : Nat} {post : Int32 → VW → Prop} {fs : List Value} (hM : Sp G l yX8_count cX8_count 2 (some .int) d2 mc2 ms2 [.ref b, v0] w (QI post)) (hy : y.cls = "ViewCardsLaw") (he : w[b]? = some (.inr (8, fs))) (hdl : d2 < d) (hk : k + mc2 ≤ mc) (hn : n + ms2 ≤ ms) (hst : (st.map fun v => v.category).sum ≤ 8) (hdg : decode cc pc = .ok (.invokevirtual 148, 3)) (kk : ∀ (x : Int32) (w2 : VW), post x w2 → R G l y cc nL ret d mc ms Q (pc + 3) lv (.int x :: st) w2 (k + mc2) (n + ms2)) : R G l y cc nL ret d mc ms Q pc lv (v0 :: .ref b :: st) w k n := R_callV (as := [v0]) (ci := 8) hM w_823 (by rw [hy]; exact w_820) w_821 w_822 w_1 ⟨by decide, by decide, by rfl⟩ hdl (by decide) hk hn hst rfl rfl he hdg (fun r w2 h => by obtain ⟨x, rfl, h⟩ := h; exact kk x w2 h)
theorem k_X8_319 {v0 : Value} {b : Nat} {d2 mc2 ms2 : Nat} {post : Int32 → VW → Prop} {fs : List Value} (hM : Sp G l yX3_negatives cX3_negatives 2 (some .int) d2 mc2 ms2 [.ref b, v0] w (QI post)) (hy : y.cls = RX8) (he : w[b]? = some (.inr (3, fs))) (hdl : d2 < d) (hk : k + mc2 ≤ mc) (hn : n + ms2 ≤ ms) (hst : (st.map fun v => v.category).sum ≤ 8) (hdg : decode cc pc = .ok (.invokevirtual 319, 3)) (kk : ∀ (x : Int32) (w2 : VW), post x w2 → R G l y cc nL ret d mc ms Q (pc + 3) lv (.int x :: st) w2 (k + mc2) (n + ms2)) : R G l y cc nL ret d mc ms Q pc lv (v0 :: .ref b :: st) w k n := R_callV (as := [v0]) (ci := 3) hM w_827 (by rw [hy]; exact w_824) w_825 w_826 w_3 ⟨by decide, by decide, by rfl⟩ hdl (by decide) hk hn hst rfl rfl he hdg (fun r w2 h => by obtain ⟨x, rfl, h⟩ := h; exact kk x w2 h)
theorem k_L_12 {b : Nat} {d2 mc2 ms2 : Nat} {post : VW → Prop} (hM : Sp G l yX9_init cX9_init 2 none d2 mc2 ms2 [.ref b] w (QV post)) (hy : y.cls = "ViewCardsLaw") (hdl : d2 < d) (hk : k + mc2 ≤ mc) (hn : n + ms2 ≤ ms) (hst : (st.map fun v => v.category).sum ≤ 8) (hdg : decode cc pc = .ok (.invokespecial 12, 3)) (kk : ∀ (w2 : VW), post w2 → R G l y cc nL ret d mc ms Q (pc + 3) lv st w2 (k + mc2) (n + ms2)) : R G l y cc nL ret d mc ms Q pc lv (.ref b :: st) w k n := R_callI (as := []) hM w_832 (by rw [hy]; exact w_830) w_831 w_10 rfl ⟨by decide, by decide, by rfl⟩ hdl (by decide) hk hn hst hdg (fun r w2 h => by obtain ⟨rfl, h⟩ := h; exact kk w2 h)
theorem k_L_19 {v0 v1 v2 v3 v4 v5 v6 : Value} {b : Nat} {d2 mc2 ms2 : Nat} {post : Int32 → VW → Prop} {fs : List Value} (hM : Sp G l yX9_card cX9_card 11 (some .int) d2 mc2 ms2 [.ref b, v0, v1, v2, v3, v4, v5, v6] w (QI post)) (hy : y.cls = "ViewCardsLaw") (he : w[b]? = some (.inr (9, fs))) (hdl : d2 < d) (hk : k + mc2 ≤ mc) (hn : n + ms2 ≤ ms) (hst : (st.map fun v => v.category).sum ≤ 8) (hdg : decode cc pc = .ok (.invokevirtual 19, 3)) (kk : ∀ (x : Int32) (w2 : VW), post x w2 → R G l y cc nL ret d mc ms Q (pc + 3) lv (.int x :: st) w2 (k + mc2) (n + ms2)) : R G l y cc nL ret d mc ms Q pc lv (v6 :: v5 :: v4 :: v3 :: v2 :: v1 :: v0 :: .ref b :: st) w k n := R_callV (as := [v0, v1, v2, v3, v4, v5, v6]) (ci := 9) hM w_985 (by rw [hy]; exact w_982) w_983 w_984 w_10 ⟨by decide, by decide, by rfl⟩ hdl (by decide) hk hn hst rfl rfl he hdg (fun r w2 h => by obtain ⟨x, rfl, h⟩ := h; exact kk x w2 h)
theorem k_X9_124 {v0 v1 v2 : Value} {d2 mc2 ms2 : Nat} {post : Int32 → VW → Prop} (hM : Sp G l yX9_in cX9_in 3 (some .boolean) d2 mc2 ms2 [v0, v1, v2] w (QI post)) (hy : y.cls = RX9) (hdl : d2 < d) (hk : k + mc2 ≤ mc) (hn : n + ms2 ≤ ms) (hst : (st.map fun v => v.category).sum ≤ 8) (hdg : decode cc pc = .ok (.invokestatic 124, 3)) (kk : ∀ (x : Int32) (w2 : VW), post x w2 → R G l y cc nL ret d mc ms Q (pc + 3) lv (.int x :: st) w2 (k + mc2) (n + ms2)) : R G l y cc nL ret d mc ms Q pc lv (v2 :: v1 :: v0 :: st) w k n := R_callS (as := [v0, v1, v2]) hM w_988 (by rw [hy]; exact w_986) w_987 w_10 ⟨by decide, by decide, by rfl⟩ hdl (by decide) hk hn hst hdg (fun r w2 h => by obtain ⟨x, rfl, h⟩ := h; exact kk x w2 h)
theorem k_X9_128 {v0 : Value} {d2 mc2 ms2 : Nat} {post : Int32 → VW → Prop} (hM : Sp G l yX9_isPublisher cX9_isPublisher 1 (some .boolean) d2 mc2 ms2 [v0] w (QI post)) (hy : y.cls = RX9) (hdl : d2 < d) (hk : k + mc2 ≤ mc) (hn : n + ms2 ≤ ms) (hst : (st.map fun v => v.category).sum ≤ 8) (hdg : decode cc pc = .ok (.invokestatic 128, 3)) (kk : ∀ (x : Int32) (w2 : VW), post x w2 → R G l y cc nL ret d mc ms Q (pc + 3) lv (.int x :: st) w2 (k + mc2) (n + ms2)) : R G l y cc nL ret d mc ms Q pc lv (v0 :: st) w k n := R_callS (as := [v0]) hM w_991 (by rw [hy]; exact w_989) w_990 w_10 ⟨by decide, by decide, by rfl⟩ hdl (by decide) hk hn hst hdg (fun r w2 h => by obtain ⟨x, rfl, h⟩ := h; exact kk x w2 h)
theorem k_L_24 {v0 v1 v2 : Value} {b : Nat} {d2 mc2 ms2 : Nat} {post : Int32 → VW → Prop} {fs : List Value} (hM : Sp G l yX9_caption cX9_caption 6 (some .int) d2 mc2 ms2 [.ref b, v0, v1, v2] w (QI post)) (hy : y.cls = "ViewCardsLaw") (he : w[b]? = some (.inr (9, fs))) (hdl : d2 < d) (hk : k + mc2 ≤ mc) (hn : n + ms2 ≤ ms) (hst : (st.map fun v => v.category).sum ≤ 8) (hdg : decode cc pc = .ok (.invokevirtual 24, 3)) (kk : ∀ (x : Int32) (w2 : VW), post x w2 → R G l y cc nL ret d mc ms Q (pc + 3) lv (.int x :: st) w2 (k + mc2) (n + ms2)) : R G l y cc nL ret d mc ms Q pc lv (v2 :: v1 :: v0 :: .ref b :: st) w k n := R_callV (as := [v0, v1, v2]) (ci := 9) hM w_995 (by rw [hy]; exact w_992) w_993 w_994 w_10 ⟨by decide, by decide, by rfl⟩ hdl (by decide) hk hn hst rfl rfl he hdg (fun r w2 h => by obtain ⟨x, rfl, h⟩ := h; exact kk x w2 h)
theorem k_X9_135 {v0 : Value} {b : Nat} {d2 mc2 ms2 : Nat} {post : Int32 → VW → Prop} {fs : List Value} (hM : Sp G l yX9_isThere cX9_isThere 2 (some .boolean) d2 mc2 ms2 [.ref b, v0] w (QI post)) (hy : y.cls = RX9) (he : w[b]? = some (.inr (9, fs))) (hdl : d2 < d) (hk : k + mc2 ≤ mc) (hn : n + ms2 ≤ ms) (hst : (st.map fun v => v.category).sum ≤ 8) (hdg : decode cc pc = .ok (.invokevirtual 135, 3)) (kk : ∀ (x : Int32) (w2 : VW), post x w2 → R G l y cc nL ret d mc ms Q (pc + 3) lv (.int x :: st) w2 (k + mc2) (n + ms2)) : R G l y cc nL ret d mc ms Q pc lv (v0 :: .ref b :: st) w k n := R_callV (as := [v0]) (ci := 9) hM w_999 (by rw [hy]; exact w_996) w_998 ws_24 w_10 ⟨by decide, by decide, by rfl⟩ hdl (by decide) hk hn hst rfl rfl he hdg (fun r w2 h => by obtain ⟨x, rfl, h⟩ := h; exact kk x w2 h)
theorem k_X9_120 {b : Nat} {d2 mc2 ms2 : Nat} {post : Int32 → VW → Prop} {fs : List Value} (hM : Sp G l yX9_thereMany cX9_thereMany 2 (some .int) d2 mc2 ms2 [.ref b] w (QI post)) (hy : y.cls = RX9) (he : w[b]? = some (.inr (9, fs))) (hdl : d2 < d) (hk : k + mc2 ≤ mc) (hn : n + ms2 ≤ ms) (hst : (st.map fun v => v.category).sum ≤ 8) (hdg : decode cc pc = .ok (.invokevirtual 120, 3)) (kk : ∀ (x : Int32) (w2 : VW), post x w2 → R G l y cc nL ret d mc ms Q (pc + 3) lv (.int x :: st) w2 (k + mc2) (n + ms2)) : R G l y cc nL ret d mc ms Q pc lv (.ref b :: st) w k n := R_callV (as := []) (ci := 9) hM w_1003 (by rw [hy]; exact w_1000) w_1002 ws_25 w_10 ⟨by decide, by decide, by rfl⟩ hdl (by decide) hk hn hst rfl rfl he hdg (fun r w2 h => by obtain ⟨x, rfl, h⟩ := h; exact kk x w2 h)
theorem k_L_29 {v0 : Value} {b : Nat} {d2 mc2 ms2 : Nat} {post : Int32 → VW → Prop} {fs : List Value} (hM : Sp G l yX9_days cX9_days 2 (some .int) d2 mc2 ms2 [.ref b, v0] w (QI post)) (hy : y.cls = "ViewCardsLaw") (he : w[b]? = some (.inr (9, fs))) (hdl : d2 < d) (hk : k + mc2 ≤ mc) (hn : n + ms2 ≤ ms) (hst : (st.map fun v => v.category).sum ≤ 8) (hdg : decode cc pc = .ok (.invokevirtual 29, 3)) (kk : ∀ (x : Int32) (w2 : VW), post x w2 → R G l y cc nL ret d mc ms Q (pc + 3) lv (.int x :: st) w2 (k + mc2) (n + ms2)) : R G l y cc nL ret d mc ms Q pc lv (v0 :: .ref b :: st) w k n := R_callV (as := [v0]) (ci := 9) hM w_1008 (by rw [hy]; exact w_1005) w_1006 w_1007 w_10 ⟨by decide, by decide, by rfl⟩ hdl (by decide) hk hn hst rfl rfl he hdg (fun r w2 h => by obtain ⟨x, rfl, h⟩ := h; exact kk x w2 h)
theorem k_L_34 {v0 v1 : Value} {b : Nat} {d2 mc2 ms2 : Nat} {post : Int32 → VW → Prop} {fs : List Value} (hM : Sp G l yX9_set cX9_set 4 (some .int) d2 mc2 ms2 [.ref b, v0, v1] w (QI post)) (hy : y.cls = "ViewCardsLaw") (he : w[b]? = some (.inr (9, fs))) (hdl : d2 < d) (hk : k + mc2 ≤ mc) (hn : n + ms2 ≤ ms) (hst : (st.map fun v => v.category).sum ≤ 8) (hdg : decode cc pc = .ok (.invokevirtual 34, 3)) (kk : ∀ (x : Int32) (w2 : VW), post x w2 → R G l y cc nL ret d mc ms Q (pc + 3) lv (.int x :: st) w2 (k + mc2) (n + ms2)) : R G l y cc nL ret d mc ms Q pc lv (v1 :: v0 :: .ref b :: st) w k n := R_callV (as := [v0, v1]) (ci := 9) hM w_1012 (by rw [hy]; exact w_1009) w_1010 w_1011 w_10 ⟨by decide, by decide, by rfl⟩ hdl (by decide) hk hn hst rfl rfl he hdg (fun r w2 h => by obtain ⟨x, rfl, h⟩ := h; exact kk x w2 h)
theorem k_L_38 {v0 v1 : Value} {b : Nat} {d2 mc2 ms2 : Nat} {post : Int32 → VW → Prop} {fs : List Value} (hM : Sp G l yX9_difference cX9_difference 3 (some .int) d2 mc2 ms2 [.ref b, v0, v1] w (QI post)) (hy : y.cls = "ViewCardsLaw") (he : w[b]? = some (.inr (9, fs))) (hdl : d2 < d) (hk : k + mc2 ≤ mc) (hn : n + ms2 ≤ ms) (hst : (st.map fun v => v.category).sum ≤ 8) (hdg : decode cc pc = .ok (.invokevirtual 38, 3)) (kk : ∀ (x : Int32) (w2 : VW), post x w2 → R G l y cc nL ret d mc ms Q (pc + 3) lv (.int x :: st) w2 (k + mc2) (n + ms2)) : R G l y cc nL ret d mc ms Q pc lv (v1 :: v0 :: .ref b :: st) w k n := R_callV (as := [v0, v1]) (ci := 9) hM w_1016 (by rw [hy]; exact w_1013) w_1014 w_1015 w_10 ⟨by decide, by decide, by rfl⟩ hdl (by decide) hk hn hst rfl rfl he hdg (fun r w2 h => by obtain ⟨x, rfl, h⟩ := h; exact kk x w2 h)
theorem k_X9_148 {v0 v1 : Value} {b : Nat} {d2 mc2 ms2 : Nat} {post : Int32 → VW → Prop} {fs : List Value} (hM : Sp G l yX9_unlikeOf cX9_unlikeOf 6 (some .int) d2 mc2 ms2 [.ref b, v0, v1] w (QI post)) (hy : y.cls = RX9) (he : w[b]? = some (.inr (9, fs))) (hdl : d2 < d) (hk : k + mc2 ≤ mc) (hn : n + ms2 ≤ ms) (hst : (st.map fun v => v.category).sum ≤ 8) (hdg : decode cc pc = .ok (.invokevirtual 148, 3)) (kk : ∀ (x : Int32) (w2 : VW), post x w2 → R G l y cc nL ret d mc ms Q (pc + 3) lv (.int x :: st) w2 (k + mc2) (n + ms2)) : R G l y cc nL ret d mc ms Q pc lv (v1 :: v0 :: .ref b :: st) w k n := R_callV (as := [v0, v1]) (ci := 9) hM w_1020 (by rw [hy]; exact w_1017) w_1019 ws_26 w_10 ⟨by decide, by decide, by rfl⟩ hdl (by decide) hk hn hst rfl rfl he hdg (fun r w2 h => by obtain ⟨x, rfl, h⟩ := h; exact kk x w2 h)
theorem k_X9_144 {v0 v1 v2 v3 : Value} {b : Nat} {d2 mc2 ms2 : Nat} {post : Int32 → VW → Prop} {fs : List Value} (hM : Sp G l yX9_unlikeBy cX9_unlikeBy 9 (some .int) d2 mc2 ms2 [.ref b, v0, v1, v2, v3] w (QI post)) (hy : y.cls = RX9) (he : w[b]? = some (.inr (9, fs))) (hdl : d2 < d) (hk : k + mc2 ≤ mc) (hn : n + ms2 ≤ ms) (hst : (st.map fun v => v.category).sum ≤ 8) (hdg : decode cc pc = .ok (.invokevirtual 144, 3)) (kk : ∀ (x : Int32) (w2 : VW), post x w2 → R G l y cc nL ret d mc ms Q (pc + 3) lv (.int x :: st) w2 (k + mc2) (n + ms2)) : R G l y cc nL ret d mc ms Q pc lv (v3 :: v2 :: v1 :: v0 :: .ref b :: st) w k n := R_callV (as := [v0, v1, v2, v3]) (ci := 9) hM w_1024 (by rw [hy]; exact w_1021) w_1023 ws_27 w_10 ⟨by decide, by decide, by rfl⟩ hdl (by decide) hk hn hst rfl rfl he hdg (fun r w2 h => by obtain ⟨x, rfl, h⟩ := h; exact kk x w2 h)
theorem k_X9_140 {v0 v1 v2 : Value} {d2 mc2 ms2 : Nat} {post : Int32 → VW → Prop} (hM : Sp G l yX9_bit cX9_bit 4 (some .int) d2 mc2 ms2 [v0, v1, v2] w (QI post)) (hy : y.cls = RX9) (hdl : d2 < d) (hk : k + mc2 ≤ mc) (hn : n + ms2 ≤ ms) (hst : (st.map fun v => v.category).sum ≤ 8) (hdg : decode cc pc = .ok (.invokestatic 140, 3)) (kk : ∀ (x : Int32) (w2 : VW), post x w2 → R G l y cc nL ret d mc ms Q (pc + 3) lv (.int x :: st) w2 (k + mc2) (n + ms2)) : R G l y cc nL ret d mc ms Q pc lv (v2 :: v1 :: v0 :: st) w k n := R_callS (as := [v0, v1, v2]) hM w_1027 (by rw [hy]; exact w_1025) w_1026 w_10 ⟨by decide, by decide, by rfl⟩ hdl (by decide) hk hn hst hdg (fun r w2 h => by obtain ⟨x, rfl, h⟩ := h; exact kk x w2 h)
theorem k_L_46 {v0 v1 : Value} {b : Nat} {d2 mc2 ms2 : Nat} {post : Int32 → VW → Prop} {fs : List Value} (hM : Sp G l yX9_far cX9_far 3 (some .int) d2 mc2 ms2 [.ref b, v0, v1] w (QI post)) (hy : y.cls = "ViewCardsLaw") (he : w[b]? = some (.inr (9, fs))) (hdl : d2 < d) (hk : k + mc2 ≤ mc) (hn : n + ms2 ≤ ms) (hst : (st.map fun v => v.category).sum ≤ 8) (hdg : decode cc pc = .ok (.invokevirtual 46, 3)) (kk : ∀ (x : Int32) (w2 : VW), post x w2 → R G l y cc nL ret d mc ms Q (pc + 3) lv (.int x :: st) w2 (k + mc2) (n + ms2)) : R G l y cc nL ret d mc ms Q pc lv (v1 :: v0 :: .ref b :: st) w k n := R_callV (as := [v0, v1]) (ci := 9) hM w_1031 (by rw [hy]; exact w_1028) w_1029 w_1030 w_10 ⟨by decide, by decide, by rfl⟩ hdl (by decide) hk hn hst rfl rfl he hdg (fun r w2 h => by obtain ⟨x, rfl, h⟩ := h; exact kk x w2 h)
theorem k_X9_152 {v0 v1 : Value} {b : Nat} {d2 mc2 ms2 : Nat} {post : Int32 → VW → Prop} {fs : List Value} (hM : Sp G l yX9_farOf cX9_farOf 6 (some .int) d2 mc2 ms2 [.ref b, v0, v1] w (QI post)) (hy : y.cls = RX9) (he : w[b]? = some (.inr (9, fs))) (hdl : d2 < d) (hk : k + mc2 ≤ mc) (hn : n + ms2 ≤ ms) (hst : (st.map fun v => v.category).sum ≤ 8) (hdg : decode cc pc = .ok (.invokevirtual 152, 3)) (kk : ∀ (x : Int32) (w2 : VW), post x w2 → R G l y cc nL ret d mc ms Q (pc + 3) lv (.int x :: st) w2 (k + mc2) (n + ms2)) : R G l y cc nL ret d mc ms Q pc lv (v1 :: v0 :: .ref b :: st) w k n := R_callV (as := [v0, v1]) (ci := 9) hM w_1035 (by rw [hy]; exact w_1032) w_1034 ws_28 w_10 ⟨by decide, by decide, by rfl⟩ hdl (by decide) hk hn hst rfl rfl he hdg (fun r w2 h => by obtain ⟨x, rfl, h⟩ := h; exact kk x w2 h)
theorem k_L_50 {v0 v1 : Value} {b : Nat} {d2 mc2 ms2 : Nat} {post : Int32 → VW → Prop} {fs : List Value} (hM : Sp G l yX9_match cX9_match 3 (some .int) d2 mc2 ms2 [.ref b, v0, v1] w (QI post)) (hy : y.cls = "ViewCardsLaw") (he : w[b]? = some (.inr (9, fs))) (hdl : d2 < d) (hk : k + mc2 ≤ mc) (hn : n + ms2 ≤ ms) (hst : (st.map fun v => v.category).sum ≤ 8) (hdg : decode cc pc = .ok (.invokevirtual 50, 3)) (kk : ∀ (x : Int32) (w2 : VW), post x w2 → R G l y cc nL ret d mc ms Q (pc + 3) lv (.int x :: st) w2 (k + mc2) (n + ms2)) : R G l y cc nL ret d mc ms Q pc lv (v1 :: v0 :: .ref b :: st) w k n := R_callV (as := [v0, v1]) (ci := 9) hM w_1039 (by rw [hy]; exact w_1036) w_1037 w_1038 w_10 ⟨by decide, by decide, by rfl⟩ hdl (by decide) hk hn hst rfl rfl he hdg (fun r w2 h => by obtain ⟨x, rfl, h⟩ := h; exact kk x w2 h)
theorem k_X9_162 {b : Nat} {d2 mc2 ms2 : Nat} {post : VW → Prop} {fs : List Value} (hM : Sp G l yX9_findUnlike cX9_findUnlike 3 none d2 mc2 ms2 [.ref b] w (QV post)) (hy : y.cls = RX9) (he : w[b]? = some (.inr (9, fs))) (hdl : d2 < d) (hk : k + mc2 ≤ mc) (hn : n + ms2 ≤ ms) (hst : (st.map fun v => v.category).sum ≤ 8) (hdg : decode cc pc = .ok (.invokevirtual 162, 3)) (kk : ∀ (w2 : VW), post w2 → R G l y cc nL ret d mc ms Q (pc + 3) lv st w2 (k + mc2) (n + ms2)) : R G l y cc nL ret d mc ms Q pc lv (.ref b :: st) w k n := R_callV (as := []) (ci := 9) hM w_1043 (by rw [hy]; exact w_1040) w_1042 ws_29 w_10 ⟨by decide, by decide, by rfl⟩ hdl (by decide) hk hn hst rfl rfl he hdg (fun r w2 h => by obtain ⟨rfl, h⟩ := h; exact kk w2 h)
theorem k_X9_159 {v0 v1 : Value} {b : Nat} {d2 mc2 ms2 : Nat} {post : Int32 → VW → Prop} {fs : List Value} (hM : Sp G l yX9_isMatch cX9_isMatch 4 (some .boolean) d2 mc2 ms2 [.ref b, v0, v1] w (QI post)) (hy : y.cls = RX9) (he : w[b]? = some (.inr (9, fs))) (hdl : d2 < d) (hk : k + mc2 ≤ mc) (hn : n + ms2 ≤ ms) (hst : (st.map fun v => v.category).sum ≤ 8) (hdg : decode cc pc = .ok (.invokevirtual 159, 3)) (kk : ∀ (x : Int32) (w2 : VW), post x w2 → R G l y cc nL ret d mc ms Q (pc + 3) lv (.int x :: st) w2 (k + mc2) (n + ms2)) : R G l y cc nL ret d mc ms Q pc lv (v1 :: v0 :: .ref b :: st) w k n := R_callV (as := [v0, v1]) (ci := 9) hM w_1047 (by rw [hy]; exact w_1044) w_1046 ws_30 w_10 ⟨by decide, by decide, by rfl⟩ hdl (by decide) hk hn hst rfl rfl he hdg (fun r w2 h => by obtain ⟨x, rfl, h⟩ := h; exact kk x w2 h)
theorem k_X9_155 {v0 v1 : Value} {b : Nat} {d2 mc2 ms2 : Nat} {post : Int32 → VW → Prop} {fs : List Value} (hM : Sp G l yX9_isLike cX9_isLike 3 (some .boolean) d2 mc2 ms2 [.ref b, v0, v1] w (QI post)) (hy : y.cls = RX9) (he : w[b]? = some (.inr (9, fs))) (hdl : d2 < d) (hk : k + mc2 ≤ mc) (hn : n + ms2 ≤ ms) (hst : (st.map fun v => v.category).sum ≤ 8) (hdg : decode cc pc = .ok (.invokevirtual 155, 3)) (kk : ∀ (x : Int32) (w2 : VW), post x w2 → R G l y cc nL ret d mc ms Q (pc + 3) lv (.int x :: st) w2 (k + mc2) (n + ms2)) : R G l y cc nL ret d mc ms Q pc lv (v1 :: v0 :: .ref b :: st) w k n := R_callV (as := [v0, v1]) (ci := 9) hM w_1051 (by rw [hy]; exact w_1048) w_1050 ws_31 w_10 ⟨by decide, by decide, by rfl⟩ hdl (by decide) hk hn hst rfl rfl he hdg (fun r w2 h => by obtain ⟨x, rfl, h⟩ := h; exact kk x w2 h)
theorem k_L_42 {v0 : Value} {b : Nat} {d2 mc2 ms2 : Nat} {post : Int32 → VW → Prop} {fs : List Value} (hM : Sp G l yX9_negative cX9_negative 2 (some .int) d2 mc2 ms2 [.ref b, v0] w (QI post)) (hy : y.cls = "ViewCardsLaw") (he : w[b]? = some (.inr (9, fs))) (hdl : d2 < d) (hk : k + mc2 ≤ mc) (hn : n + ms2 ≤ ms) (hst : (st.map fun v => v.category).sum ≤ 8) (hdg : decode cc pc = .ok (.invokevirtual 42, 3)) (kk : ∀ (x : Int32) (w2 : VW), post x w2 → R G l y cc nL ret d mc ms Q (pc + 3) lv (.int x :: st) w2 (k + mc2) (n + ms2)) : R G l y cc nL ret d mc ms Q pc lv (v0 :: .ref b :: st) w k n := R_callV (as := [v0]) (ci := 9) hM w_1055 (by rw [hy]; exact w_1052) w_1053 w_1054 w_10 ⟨by decide, by decide, by rfl⟩ hdl (by decide) hk hn hst rfl rfl he hdg (fun r w2 h => by obtain ⟨x, rfl, h⟩ := h; exact kk x w2 h)
theorem k_X9_165 {v0 v1 v2 : Value} {b : Nat} {d2 mc2 ms2 : Nat} {post : VW → Prop} {fs : List Value} (hM : Sp G l yX9_findChains cX9_findChains 11 none d2 mc2 ms2 [.ref b, v0, v1, v2] w (QV post)) (hy : y.cls = RX9) (he : w[b]? = some (.inr (9, fs))) (hdl : d2 < d) (hk : k + mc2 ≤ mc) (hn : n + ms2 ≤ ms) (hst : (st.map fun v => v.category).sum ≤ 8) (hdg : decode cc pc = .ok (.invokevirtual 165, 3)) (kk : ∀ (w2 : VW), post w2 → R G l y cc nL ret d mc ms Q (pc + 3) lv st w2 (k + mc2) (n + ms2)) : R G l y cc nL ret d mc ms Q pc lv (v2 :: v1 :: v0 :: .ref b :: st) w k n := R_callV (as := [v0, v1, v2]) (ci := 9) hM w_1059 (by rw [hy]; exact w_1056) w_1058 ws_32 w_10 ⟨by decide, by decide, by rfl⟩ hdl (by decide) hk hn hst rfl rfl he hdg (fun r w2 h => by obtain ⟨rfl, h⟩ := h; exact kk w2 h)
theorem k_L_54 {v0 v1 : Value} {b : Nat} {d2 mc2 ms2 : Nat} {post : Int32 → VW → Prop} {fs : List Value} (hM : Sp G l yX9_of cX9_of 5 (some .int) d2 mc2 ms2 [.ref b, v0, v1] w (QI post)) (hy : y.cls = "ViewCardsLaw") (he : w[b]? = some (.inr (9, fs))) (hdl : d2 < d) (hk : k + mc2 ≤ mc) (hn : n + ms2 ≤ ms) (hst : (st.map fun v => v.category).sum ≤ 8) (hdg : decode cc pc = .ok (.invokevirtual 54, 3)) (kk : ∀ (x : Int32) (w2 : VW), post x w2 → R G l y cc nL ret d mc ms Q (pc + 3) lv (.int x :: st) w2 (k + mc2) (n + ms2)) : R G l y cc nL ret d mc ms Q pc lv (v1 :: v0 :: .ref b :: st) w k n := R_callV (as := [v0, v1]) (ci := 9) hM w_1063 (by rw [hy]; exact w_1060) w_1061 w_1062 w_10 ⟨by decide, by decide, by rfl⟩ hdl (by decide) hk hn hst rfl rfl he hdg (fun r w2 h => by obtain ⟨x, rfl, h⟩ := h; exact kk x w2 h)
theorem k_X9_173 {v0 : Value} {d2 mc2 ms2 : Nat} {post : Int32 → VW → Prop} (hM : Sp G l yX9_bits cX9_bits 3 (some .int) d2 mc2 ms2 [v0] w (QI post)) (hy : y.cls = RX9) (hdl : d2 < d) (hk : k + mc2 ≤ mc) (hn : n + ms2 ≤ ms) (hst : (st.map fun v => v.category).sum ≤ 8) (hdg : decode cc pc = .ok (.invokestatic 173, 3)) (kk : ∀ (x : Int32) (w2 : VW), post x w2 → R G l y cc nL ret d mc ms Q (pc + 3) lv (.int x :: st) w2 (k + mc2) (n + ms2)) : R G l y cc nL ret d mc ms Q pc lv (v0 :: st) w k n := R_callS (as := [v0]) hM w_1066 (by rw [hy]; exact w_1064) w_1065 w_10 ⟨by decide, by decide, by rfl⟩ hdl (by decide) hk hn hst hdg (fun r w2 h => by obtain ⟨x, rfl, h⟩ := h; exact kk x w2 h)
theorem k_X9_169 {v0 : Value} {b : Nat} {d2 mc2 ms2 : Nat} {post : Int32 → VW → Prop} {fs : List Value} (hM : Sp G l yX9_listsOf cX9_listsOf 4 (some .int) d2 mc2 ms2 [.ref b, v0] w (QI post)) (hy : y.cls = RX9) (he : w[b]? = some (.inr (9, fs))) (hdl : d2 < d) (hk : k + mc2 ≤ mc) (hn : n + ms2 ≤ ms) (hst : (st.map fun v => v.category).sum ≤ 8) (hdg : decode cc pc = .ok (.invokevirtual 169, 3)) (kk : ∀ (x : Int32) (w2 : VW), post x w2 → R G l y cc nL ret d mc ms Q (pc + 3) lv (.int x :: st) w2 (k + mc2) (n + ms2)) : R G l y cc nL ret d mc ms Q pc lv (v0 :: .ref b :: st) w k n := R_callV (as := [v0]) (ci := 9) hM w_1070 (by rw [hy]; exact w_1067) w_1069 ws_33 w_10 ⟨by decide, by decide, by rfl⟩ hdl (by decide) hk hn hst rfl rfl he hdg (fun r w2 h => by obtain ⟨x, rfl, h⟩ := h; exact kk x w2 h)
theorem k_X9_179 {v0 : Value} {b : Nat} {d2 mc2 ms2 : Nat} {post : Int32 → VW → Prop} {fs : List Value} (hM : Sp G l yX9_rivalsOf cX9_rivalsOf 6 (some .int) d2 mc2 ms2 [.ref b, v0] w (QI post)) (hy : y.cls = RX9) (he : w[b]? = some (.inr (9, fs))) (hdl : d2 < d) (hk : k + mc2 ≤ mc) (hn : n + ms2 ≤ ms) (hst : (st.map fun v => v.category).sum ≤ 8) (hdg : decode cc pc = .ok (.invokevirtual 179, 3)) (kk : ∀ (x : Int32) (w2 : VW), post x w2 → R G l y cc nL ret d mc ms Q (pc + 3) lv (.int x :: st) w2 (k + mc2) (n + ms2)) : R G l y cc nL ret d mc ms Q pc lv (v0 :: .ref b :: st) w k n := R_callV (as := [v0]) (ci := 9) hM w_1074 (by rw [hy]; exact w_1071) w_1073 ws_34 w_10 ⟨by decide, by decide, by rfl⟩ hdl (by decide) hk hn hst rfl rfl he hdg (fun r w2 h => by obtain ⟨x, rfl, h⟩ := h; exact kk x w2 h)
theorem k_X9_182 {v0 : Value} {b : Nat} {d2 mc2 ms2 : Nat} {post : Int32 → VW → Prop} {fs : List Value} (hM : Sp G l yX9_priceOf cX9_priceOf 5 (some .int) d2 mc2 ms2 [.ref b, v0] w (QI post)) (hy : y.cls = RX9) (he : w[b]? = some (.inr (9, fs))) (hdl : d2 < d) (hk : k + mc2 ≤ mc) (hn : n + ms2 ≤ ms) (hst : (st.map fun v => v.category).sum ≤ 8) (hdg : decode cc pc = .ok (.invokevirtual 182, 3)) (kk : ∀ (x : Int32) (w2 : VW), post x w2 → R G l y cc nL ret d mc ms Q (pc + 3) lv (.int x :: st) w2 (k + mc2) (n + ms2)) : R G l y cc nL ret d mc ms Q pc lv (v0 :: .ref b :: st) w k n := R_callV (as := [v0]) (ci := 9) hM w_1078 (by rw [hy]; exact w_1075) w_1077 ws_35 w_10 ⟨by decide, by decide, by rfl⟩ hdl (by decide) hk hn hst rfl rfl he hdg (fun r w2 h => by obtain ⟨x, rfl, h⟩ := h; exact kk x w2 h)
theorem k_X9_176 {v0 v1 : Value} {b : Nat} {d2 mc2 ms2 : Nat} {post : Int32 → VW → Prop} {fs : List Value} (hM : Sp G l yX9_isMissing cX9_isMissing 3 (some .boolean) d2 mc2 ms2 [.ref b, v0, v1] w (QI post)) (hy : y.cls = RX9) (he : w[b]? = some (.inr (9, fs))) (hdl : d2 < d) (hk : k + mc2 ≤ mc) (hn : n + ms2 ≤ ms) (hst : (st.map fun v => v.category).sum ≤ 8) (hdg : decode cc pc = .ok (.invokevirtual 176, 3)) (kk : ∀ (x : Int32) (w2 : VW), post x w2 → R G l y cc nL ret d mc ms Q (pc + 3) lv (.int x :: st) w2 (k + mc2) (n + ms2)) : R G l y cc nL ret d mc ms Q pc lv (v1 :: v0 :: .ref b :: st) w k n := R_callV (as := [v0, v1]) (ci := 9) hM w_1082 (by rw [hy]; exact w_1079) w_1081 ws_36 w_10 ⟨by decide, by decide, by rfl⟩ hdl (by decide) hk hn hst rfl rfl he hdg (fun r w2 h => by obtain ⟨x, rfl, h⟩ := h; exact kk x w2 h)
theorem k_X9_188 {v0 v1 : Value} {b : Nat} {d2 mc2 ms2 : Nat} {post : Int32 → VW → Prop} {fs : List Value} (hM : Sp G l yX9_endOf cX9_endOf 4 (some .int) d2 mc2 ms2 [.ref b, v0, v1] w (QI post)) (hy : y.cls = RX9) (he : w[b]? = some (.inr (9, fs))) (hdl : d2 < d) (hk : k + mc2 ≤ mc) (hn : n + ms2 ≤ ms) (hst : (st.map fun v => v.category).sum ≤ 8) (hdg : decode cc pc = .ok (.invokevirtual 188, 3)) (kk : ∀ (x : Int32) (w2 : VW), post x w2 → R G l y cc nL ret d mc ms Q (pc + 3) lv (.int x :: st) w2 (k + mc2) (n + ms2)) : R G l y cc nL ret d mc ms Q pc lv (v1 :: v0 :: .ref b :: st) w k n := R_callV (as := [v0, v1]) (ci := 9) hM w_1086 (by rw [hy]; exact w_1083) w_1085 ws_37 w_10 ⟨by decide, by decide, by rfl⟩ hdl (by decide) hk hn hst rfl rfl he hdg (fun r w2 h => by obtain ⟨x, rfl, h⟩ := h; exact kk x w2 h)
theorem k_X9_185 {v0 v1 : Value} {b : Nat} {d2 mc2 ms2 : Nat} {post : Int32 → VW → Prop} {fs : List Value} (hM : Sp G l yX9_hasNumber cX9_hasNumber 5 (some .boolean) d2 mc2 ms2 [.ref b, v0, v1] w (QI post)) (hy : y.cls = RX9) (he : w[b]? = some (.inr (9, fs))) (hdl : d2 < d) (hk : k + mc2 ≤ mc) (hn : n + ms2 ≤ ms) (hst : (st.map fun v => v.category).sum ≤ 8) (hdg : decode cc pc = .ok (.invokevirtual 185, 3)) (kk : ∀ (x : Int32) (w2 : VW), post x w2 → R G l y cc nL ret d mc ms Q (pc + 3) lv (.int x :: st) w2 (k + mc2) (n + ms2)) : R G l y cc nL ret d mc ms Q pc lv (v1 :: v0 :: .ref b :: st) w k n := R_callV (as := [v0, v1]) (ci := 9) hM w_1090 (by rw [hy]; exact w_1087) w_1089 ws_38 w_10 ⟨by decide, by decide, by rfl⟩ hdl (by decide) hk hn hst rfl rfl he hdg (fun r w2 h => by obtain ⟨x, rfl, h⟩ := h; exact kk x w2 h)
theorem k_L_58 {v0 v1 : Value} {b : Nat} {d2 mc2 ms2 : Nat} {post : Int32 → VW → Prop} {fs : List Value} (hM : Sp G l yX9_series cX9_series 9 (some .int) d2 mc2 ms2 [.ref b, v0, v1] w (QI post)) (hy : y.cls = "ViewCardsLaw") (he : w[b]? = some (.inr (9, fs))) (hdl : d2 < d) (hk : k + mc2 ≤ mc) (hn : n + ms2 ≤ ms) (hst : (st.map fun v => v.category).sum ≤ 8) (hdg : decode cc pc = .ok (.invokevirtual 58, 3)) (kk : ∀ (x : Int32) (w2 : VW), post x w2 → R G l y cc nL ret d mc ms Q (pc + 3) lv (.int x :: st) w2 (k + mc2) (n + ms2)) : R G l y cc nL ret d mc ms Q pc lv (v1 :: v0 :: .ref b :: st) w k n := R_callV (as := [v0, v1]) (ci := 9) hM w_1094 (by rw [hy]; exact w_1091) w_1092 w_1093 w_10 ⟨by decide, by decide, by rfl⟩ hdl (by decide) hk hn hst rfl rfl he hdg (fun r w2 h => by obtain ⟨x, rfl, h⟩ := h; exact kk x w2 h)
theorem k_L_62 {v0 v1 : Value} {b : Nat} {d2 mc2 ms2 : Nat} {post : Int32 → VW → Prop} {fs : List Value} (hM : Sp G l yX9_gap cX9_gap 6 (some .int) d2 mc2 ms2 [.ref b, v0, v1] w (QI post)) (hy : y.cls = "ViewCardsLaw") (he : w[b]? = some (.inr (9, fs))) (hdl : d2 < d) (hk : k + mc2 ≤ mc) (hn : n + ms2 ≤ ms) (hst : (st.map fun v => v.category).sum ≤ 8) (hdg : decode cc pc = .ok (.invokevirtual 62, 3)) (kk : ∀ (x : Int32) (w2 : VW), post x w2 → R G l y cc nL ret d mc ms Q (pc + 3) lv (.int x :: st) w2 (k + mc2) (n + ms2)) : R G l y cc nL ret d mc ms Q pc lv (v1 :: v0 :: .ref b :: st) w k n := R_callV (as := [v0, v1]) (ci := 9) hM w_1098 (by rw [hy]; exact w_1095) w_1096 w_1097 w_10 ⟨by decide, by decide, by rfl⟩ hdl (by decide) hk hn hst rfl rfl he hdg (fun r w2 h => by obtain ⟨x, rfl, h⟩ := h; exact kk x w2 h)
theorem k_L_66 {v0 : Value} {b : Nat} {d2 mc2 ms2 : Nat} {post : Int32 → VW → Prop} {fs : List Value} (hM : Sp G l yX9_unseen cX9_unseen 6 (some .int) d2 mc2 ms2 [.ref b, v0] w (QI post)) (hy : y.cls = "ViewCardsLaw") (he : w[b]? = some (.inr (9, fs))) (hdl : d2 < d) (hk : k + mc2 ≤ mc) (hn : n + ms2 ≤ ms) (hst : (st.map fun v => v.category).sum ≤ 8) (hdg : decode cc pc = .ok (.invokevirtual 66, 3)) (kk : ∀ (x : Int32) (w2 : VW), post x w2 → R G l y cc nL ret d mc ms Q (pc + 3) lv (.int x :: st) w2 (k + mc2) (n + ms2)) : R G l y cc nL ret d mc ms Q pc lv (v0 :: .ref b :: st) w k n := R_callV (as := [v0]) (ci := 9) hM w_1102 (by rw [hy]; exact w_1099) w_1100 w_1101 w_10 ⟨by decide, by decide, by rfl⟩ hdl (by decide) hk hn hst rfl rfl he hdg (fun r w2 h => by obtain ⟨x, rfl, h⟩ := h; exact kk x w2 h)
theorem k_X9_194 {v0 v1 v2 : Value} {d2 mc2 ms2 : Nat} {post : Int32 → VW → Prop} (hM : Sp G l yX9_lowest cX9_lowest 4 (some .int) d2 mc2 ms2 [v0, v1, v2] w (QI post)) (hy : y.cls = RX9) (hdl : d2 < d) (hk : k + mc2 ≤ mc) (hn : n + ms2 ≤ ms) (hst : (st.map fun v => v.category).sum ≤ 8) (hdg : decode cc pc = .ok (.invokestatic 194, 3)) (kk : ∀ (x : Int32) (w2 : VW), post x w2 → R G l y cc nL ret d mc ms Q (pc + 3) lv (.int x :: st) w2 (k + mc2) (n + ms2)) : R G l y cc nL ret d mc ms Q pc lv (v2 :: v1 :: v0 :: st) w k n := R_callS (as := [v0, v1, v2]) hM w_1105 (by rw [hy]; exact w_1103) w_1104 w_10 ⟨by decide, by decide, by rfl⟩ hdl (by decide) hk hn hst hdg (fun r w2 h => by obtain ⟨x, rfl, h⟩ := h; exact kk x w2 h)
theorem k_X9_191 {v0 v1 : Value} {d2 mc2 ms2 : Nat} {post : Int32 → VW → Prop} (hM : Sp G l yX9_common cX9_common 5 (some .int) d2 mc2 ms2 [v0, v1] w (QI post)) (hy : y.cls = RX9) (hdl : d2 < d) (hk : k + mc2 ≤ mc) (hn : n + ms2 ≤ ms) (hst : (st.map fun v => v.category).sum ≤ 8) (hdg : decode cc pc = .ok (.invokestatic 191, 3)) (kk : ∀ (x : Int32) (w2 : VW), post x w2 → R G l y cc nL ret d mc ms Q (pc + 3) lv (.int x :: st) w2 (k + mc2) (n + ms2)) : R G l y cc nL ret d mc ms Q pc lv (v1 :: v0 :: st) w k n := R_callS (as := [v0, v1]) hM w_1108 (by rw [hy]; exact w_1106) w_1107 w_10 ⟨by decide, by decide, by rfl⟩ hdl (by decide) hk hn hst hdg (fun r w2 h => by obtain ⟨x, rfl, h⟩ := h; exact kk x w2 h)
theorem k_L_71 {v0 v1 v2 : Value} {b : Nat} {d2 mc2 ms2 : Nat} {post : Int32 → VW → Prop} {fs : List Value} (hM : Sp G l yX9_overlap cX9_overlap 9 (some .int) d2 mc2 ms2 [.ref b, v0, v1, v2] w (QI post)) (hy : y.cls = "ViewCardsLaw") (he : w[b]? = some (.inr (9, fs))) (hdl : d2 < d) (hk : k + mc2 ≤ mc) (hn : n + ms2 ≤ ms) (hst : (st.map fun v => v.category).sum ≤ 8) (hdg : decode cc pc = .ok (.invokevirtual 71, 3)) (kk : ∀ (x : Int32) (w2 : VW), post x w2 → R G l y cc nL ret d mc ms Q (pc + 3) lv (.int x :: st) w2 (k + mc2) (n + ms2)) : R G l y cc nL ret d mc ms Q pc lv (v2 :: v1 :: v0 :: .ref b :: st) w k n := R_callV (as := [v0, v1, v2]) (ci := 9) hM w_1112 (by rw [hy]; exact w_1109) w_1110 w_1111 w_10 ⟨by decide, by decide, by rfl⟩ hdl (by decide) hk hn hst rfl rfl he hdg (fun r w2 h => by obtain ⟨x, rfl, h⟩ := h; exact kk x w2 h)
theorem k_L_75 {v0 v1 v2 : Value} {b : Nat} {d2 mc2 ms2 : Nat} {post : Int32 → VW → Prop} {fs : List Value} (hM : Sp G l yX9_feature cX9_feature 4 (some .int) d2 mc2 ms2 [.ref b, v0, v1, v2] w (QI post)) (hy : y.cls = "ViewCardsLaw") (he : w[b]? = some (.inr (9, fs))) (hdl : d2 < d) (hk : k + mc2 ≤ mc) (hn : n + ms2 ≤ ms) (hst : (st.map fun v => v.category).sum ≤ 8) (hdg : decode cc pc = .ok (.invokevirtual 75, 3)) (kk : ∀ (x : Int32) (w2 : VW), post x w2 → R G l y cc nL ret d mc ms Q (pc + 3) lv (.int x :: st) w2 (k + mc2) (n + ms2)) : R G l y cc nL ret d mc ms Q pc lv (v2 :: v1 :: v0 :: .ref b :: st) w k n := R_callV (as := [v0, v1, v2]) (ci := 9) hM w_1116 (by rw [hy]; exact w_1113) w_1114 w_1115 w_10 ⟨by decide, by decide, by rfl⟩ hdl (by decide) hk hn hst rfl rfl he hdg (fun r w2 h => by obtain ⟨x, rfl, h⟩ := h; exact kk x w2 h)
theorem k_X9_198 {v0 : Value} {d2 mc2 ms2 : Nat} {post : Int32 → VW → Prop} (hM : Sp G l yX9_isDay cX9_isDay 1 (some .boolean) d2 mc2 ms2 [v0] w (QI post)) (hy : y.cls = RX9) (hdl : d2 < d) (hk : k + mc2 ≤ mc) (hn : n + ms2 ≤ ms) (hst : (st.map fun v => v.category).sum ≤ 8) (hdg : decode cc pc = .ok (.invokestatic 198, 3)) (kk : ∀ (x : Int32) (w2 : VW), post x w2 → R G l y cc nL ret d mc ms Q (pc + 3) lv (.int x :: st) w2 (k + mc2) (n + ms2)) : R G l y cc nL ret d mc ms Q pc lv (v0 :: st) w k n := R_callS (as := [v0]) hM w_1119 (by rw [hy]; exact w_1117) w_1118 w_10 ⟨by decide, by decide, by rfl⟩ hdl (by decide) hk hn hst hdg (fun r w2 h => by obtain ⟨x, rfl, h⟩ := h; exact kk x w2 h)
theorem k_L_79 {v0 v1 v2 : Value} {b : Nat} {d2 mc2 ms2 : Nat} {post : Int32 → VW → Prop} {fs : List Value} (hM : Sp G l yX9_shows cX9_shows 5 (some .int) d2 mc2 ms2 [.ref b, v0, v1, v2] w (QI post)) (hy : y.cls = "ViewCardsLaw") (he : w[b]? = some (.inr (9, fs))) (hdl : d2 < d) (hk : k + mc2 ≤ mc) (hn : n + ms2 ≤ ms) (hst : (st.map fun v => v.category).sum ≤ 8) (hdg : decode cc pc = .ok (.invokevirtual 79, 3)) (kk : ∀ (x : Int32) (w2 : VW), post x w2 → R G l y cc nL ret d mc ms Q (pc + 3) lv (.int x :: st) w2 (k + mc2) (n + ms2)) : R G l y cc nL ret d mc ms Q pc lv (v2 :: v1 :: v0 :: .ref b :: st) w k n := R_callV (as := [v0, v1, v2]) (ci := 9) hM w_1123 (by rw [hy]; exact w_1120) w_1121 w_1122 w_10 ⟨by decide, by decide, by rfl⟩ hdl (by decide) hk hn hst rfl rfl he hdg (fun r w2 h => by obtain ⟨x, rfl, h⟩ := h; exact kk x w2 h)
theorem k_L_83 {v0 v1 v2 : Value} {b : Nat} {d2 mc2 ms2 : Nat} {post : Int32 → VW → Prop} {fs : List Value} (hM : Sp G l yX9_back cX9_back 4 (some .int) d2 mc2 ms2 [.ref b, v0, v1, v2] w (QI post)) (hy : y.cls = "ViewCardsLaw") (he : w[b]? = some (.inr (9, fs))) (hdl : d2 < d) (hk : k + mc2 ≤ mc) (hn : n + ms2 ≤ ms) (hst : (st.map fun v => v.category).sum ≤ 8) (hdg : decode cc pc = .ok (.invokevirtual 83, 3)) (kk : ∀ (x : Int32) (w2 : VW), post x w2 → R G l y cc nL ret d mc ms Q (pc + 3) lv (.int x :: st) w2 (k + mc2) (n + ms2)) : R G l y cc nL ret d mc ms Q pc lv (v2 :: v1 :: v0 :: .ref b :: st) w k n := R_callV (as := [v0, v1, v2]) (ci := 9) hM w_1127 (by rw [hy]; exact w_1124) w_1125 w_1126 w_10 ⟨by decide, by decide, by rfl⟩ hdl (by decide) hk hn hst rfl rfl he hdg (fun r w2 h => by obtain ⟨x, rfl, h⟩ := h; exact kk x w2 h)
theorem k_L_87 {v0 v1 : Value} {b : Nat} {d2 mc2 ms2 : Nat} {post : Int32 → VW → Prop} {fs : List Value} (hM : Sp G l yX9_later cX9_later 3 (some .int) d2 mc2 ms2 [.ref b, v0, v1] w (QI post)) (hy : y.cls = "ViewCardsLaw") (he : w[b]? = some (.inr (9, fs))) (hdl : d2 < d) (hk : k + mc2 ≤ mc) (hn : n + ms2 ≤ ms) (hst : (st.map fun v => v.category).sum ≤ 8) (hdg : decode cc pc = .ok (.invokevirtual 87, 3)) (kk : ∀ (x : Int32) (w2 : VW), post x w2 → R G l y cc nL ret d mc ms Q (pc + 3) lv (.int x :: st) w2 (k + mc2) (n + ms2)) : R G l y cc nL ret d mc ms Q pc lv (v1 :: v0 :: .ref b :: st) w k n := R_callV (as := [v0, v1]) (ci := 9) hM w_1131 (by rw [hy]; exact w_1128) w_1129 w_1130 w_10 ⟨by decide, by decide, by rfl⟩ hdl (by decide) hk hn hst rfl rfl he hdg (fun r w2 h => by obtain ⟨x, rfl, h⟩ := h; exact kk x w2 h)
theorem k_L_91 {v0 v1 v2 : Value} {b : Nat} {d2 mc2 ms2 : Nat} {post : Int32 → VW → Prop} {fs : List Value} (hM : Sp G l yX9_span cX9_span 4 (some .int) d2 mc2 ms2 [.ref b, v0, v1, v2] w (QI post)) (hy : y.cls = "ViewCardsLaw") (he : w[b]? = some (.inr (9, fs))) (hdl : d2 < d) (hk : k + mc2 ≤ mc) (hn : n + ms2 ≤ ms) (hst : (st.map fun v => v.category).sum ≤ 8) (hdg : decode cc pc = .ok (.invokevirtual 91, 3)) (kk : ∀ (x : Int32) (w2 : VW), post x w2 → R G l y cc nL ret d mc ms Q (pc + 3) lv (.int x :: st) w2 (k + mc2) (n + ms2)) : R G l y cc nL ret d mc ms Q pc lv (v2 :: v1 :: v0 :: .ref b :: st) w k n := R_callV (as := [v0, v1, v2]) (ci := 9) hM w_1135 (by rw [hy]; exact w_1132) w_1133 w_1134 w_10 ⟨by decide, by decide, by rfl⟩ hdl (by decide) hk hn hst rfl rfl he hdg (fun r w2 h => by obtain ⟨x, rfl, h⟩ := h; exact kk x w2 h)
theorem k_X9_228 {v0 v1 : Value} {b : Nat} {d2 mc2 ms2 : Nat} {post : Int32 → VW → Prop} {fs : List Value} (hM : Sp G l yX9_areSpans cX9_areSpans 6 (some .boolean) d2 mc2 ms2 [.ref b, v0, v1] w (QI post)) (hy : y.cls = RX9) (he : w[b]? = some (.inr (9, fs))) (hdl : d2 < d) (hk : k + mc2 ≤ mc) (hn : n + ms2 ≤ ms) (hst : (st.map fun v => v.category).sum ≤ 8) (hdg : decode cc pc = .ok (.invokevirtual 228, 3)) (kk : ∀ (x : Int32) (w2 : VW), post x w2 → R G l y cc nL ret d mc ms Q (pc + 3) lv (.int x :: st) w2 (k + mc2) (n + ms2)) : R G l y cc nL ret d mc ms Q pc lv (v1 :: v0 :: .ref b :: st) w k n := R_callV (as := [v0, v1]) (ci := 9) hM w_1139 (by rw [hy]; exact w_1136) w_1138 ws_39 w_10 ⟨by decide, by decide, by rfl⟩ hdl (by decide) hk hn hst rfl rfl he hdg (fun r w2 h => by obtain ⟨x, rfl, h⟩ := h; exact kk x w2 h)
theorem k_X9_221 {v0 : Value} {b : Nat} {d2 mc2 ms2 : Nat} {post : Int32 → VW → Prop} {fs : List Value} (hM : Sp G l yX9_isEmpty cX9_isEmpty 4 (some .boolean) d2 mc2 ms2 [.ref b, v0] w (QI post)) (hy : y.cls = RX9) (he : w[b]? = some (.inr (9, fs))) (hdl : d2 < d) (hk : k + mc2 ≤ mc) (hn : n + ms2 ≤ ms) (hst : (st.map fun v => v.category).sum ≤ 8) (hdg : decode cc pc = .ok (.invokevirtual 221, 3)) (kk : ∀ (x : Int32) (w2 : VW), post x w2 → R G l y cc nL ret d mc ms Q (pc + 3) lv (.int x :: st) w2 (k + mc2) (n + ms2)) : R G l y cc nL ret d mc ms Q pc lv (v0 :: .ref b :: st) w k n := R_callV (as := [v0]) (ci := 9) hM w_1143 (by rw [hy]; exact w_1140) w_1142 ws_40 w_10 ⟨by decide, by decide, by rfl⟩ hdl (by decide) hk hn hst rfl rfl he hdg (fun r w2 h => by obtain ⟨x, rfl, h⟩ := h; exact kk x w2 h)
theorem k_X9_224 {v0 v1 : Value} {b : Nat} {d2 mc2 ms2 : Nat} {post : VW → Prop} {fs : List Value} (hM : Sp G l yX9_narrow cX9_narrow 5 none d2 mc2 ms2 [.ref b, v0, v1] w (QV post)) (hy : y.cls = RX9) (he : w[b]? = some (.inr (9, fs))) (hdl : d2 < d) (hk : k + mc2 ≤ mc) (hn : n + ms2 ≤ ms) (hst : (st.map fun v => v.category).sum ≤ 8) (hdg : decode cc pc = .ok (.invokevirtual 224, 3)) (kk : ∀ (w2 : VW), post w2 → R G l y cc nL ret d mc ms Q (pc + 3) lv st w2 (k + mc2) (n + ms2)) : R G l y cc nL ret d mc ms Q pc lv (v1 :: v0 :: .ref b :: st) w k n := R_callV (as := [v0, v1]) (ci := 9) hM w_1147 (by rw [hy]; exact w_1144) w_1146 ws_41 w_10 ⟨by decide, by decide, by rfl⟩ hdl (by decide) hk hn hst rfl rfl he hdg (fun r w2 h => by obtain ⟨rfl, h⟩ := h; exact kk w2 h)
theorem k_X9_208 {v0 v1 v2 : Value} {b : Nat} {d2 mc2 ms2 : Nat} {post : VW → Prop} {fs : List Value} (hM : Sp G l yX9_takenIn cX9_takenIn 4 none d2 mc2 ms2 [.ref b, v0, v1, v2] w (QV post)) (hy : y.cls = RX9) (he : w[b]? = some (.inr (9, fs))) (hdl : d2 < d) (hk : k + mc2 ≤ mc) (hn : n + ms2 ≤ ms) (hst : (st.map fun v => v.category).sum ≤ 8) (hdg : decode cc pc = .ok (.invokevirtual 208, 3)) (kk : ∀ (w2 : VW), post w2 → R G l y cc nL ret d mc ms Q (pc + 3) lv st w2 (k + mc2) (n + ms2)) : R G l y cc nL ret d mc ms Q pc lv (v2 :: v1 :: v0 :: .ref b :: st) w k n := R_callV (as := [v0, v1, v2]) (ci := 9) hM w_1151 (by rw [hy]; exact w_1148) w_1150 ws_42 w_10 ⟨by decide, by decide, by rfl⟩ hdl (by decide) hk hn hst rfl rfl he hdg (fun r w2 h => by obtain ⟨rfl, h⟩ := h; exact kk w2 h)
theorem k_X9_212 {v0 v1 v2 : Value} {b : Nat} {d2 mc2 ms2 : Nat} {post : VW → Prop} {fs : List Value} (hM : Sp G l yX9_outIn cX9_outIn 4 none d2 mc2 ms2 [.ref b, v0, v1, v2] w (QV post)) (hy : y.cls = RX9) (he : w[b]? = some (.inr (9, fs))) (hdl : d2 < d) (hk : k + mc2 ≤ mc) (hn : n + ms2 ≤ ms) (hst : (st.map fun v => v.category).sum ≤ 8) (hdg : decode cc pc = .ok (.invokevirtual 212, 3)) (kk : ∀ (w2 : VW), post w2 → R G l y cc nL ret d mc ms Q (pc + 3) lv st w2 (k + mc2) (n + ms2)) : R G l y cc nL ret d mc ms Q pc lv (v2 :: v1 :: v0 :: .ref b :: st) w k n := R_callV (as := [v0, v1, v2]) (ci := 9) hM w_1155 (by rw [hy]; exact w_1152) w_1154 ws_43 w_10 ⟨by decide, by decide, by rfl⟩ hdl (by decide) hk hn hst rfl rfl he hdg (fun r w2 h => by obtain ⟨rfl, h⟩ := h; exact kk w2 h)
theorem k_X9_218 {v0 v1 : Value} {b : Nat} {d2 mc2 ms2 : Nat} {post : Int32 → VW → Prop} {fs : List Value} (hM : Sp G l yX9_isOf cX9_isOf 3 (some .boolean) d2 mc2 ms2 [.ref b, v0, v1] w (QI post)) (hy : y.cls = RX9) (he : w[b]? = some (.inr (9, fs))) (hdl : d2 < d) (hk : k + mc2 ≤ mc) (hn : n + ms2 ≤ ms) (hst : (st.map fun v => v.category).sum ≤ 8) (hdg : decode cc pc = .ok (.invokevirtual 218, 3)) (kk : ∀ (x : Int32) (w2 : VW), post x w2 → R G l y cc nL ret d mc ms Q (pc + 3) lv (.int x :: st) w2 (k + mc2) (n + ms2)) : R G l y cc nL ret d mc ms Q pc lv (v1 :: v0 :: .ref b :: st) w k n := R_callV (as := [v0, v1]) (ci := 9) hM w_1159 (by rw [hy]; exact w_1156) w_1158 ws_44 w_10 ⟨by decide, by decide, by rfl⟩ hdl (by decide) hk hn hst rfl rfl he hdg (fun r w2 h => by obtain ⟨x, rfl, h⟩ := h; exact kk x w2 h)
theorem k_L_96 {b : Nat} {d2 mc2 ms2 : Nat} {post : Int32 → VW → Prop} {fs : List Value} (hM : Sp G l yX9_quarrel cX9_quarrel 1 (some .int) d2 mc2 ms2 [.ref b] w (QI post)) (hy : y.cls = "ViewCardsLaw") (he : w[b]? = some (.inr (9, fs))) (hdl : d2 < d) (hk : k + mc2 ≤ mc) (hn : n + ms2 ≤ ms) (hst : (st.map fun v => v.category).sum ≤ 8) (hdg : decode cc pc = .ok (.invokevirtual 96, 3)) (kk : ∀ (x : Int32) (w2 : VW), post x w2 → R G l y cc nL ret d mc ms Q (pc + 3) lv (.int x :: st) w2 (k + mc2) (n + ms2)) : R G l y cc nL ret d mc ms Q pc lv (.ref b :: st) w k n := R_callV (as := []) (ci := 9) hM w_1163 (by rw [hy]; exact w_1160) w_1161 w_1162 w_10 ⟨by decide, by decide, by rfl⟩ hdl (by decide) hk hn hst rfl rfl he hdg (fun r w2 h => by obtain ⟨x, rfl, h⟩ := h; exact kk x w2 h)
theorem k_L_100 {b : Nat} {d2 mc2 ms2 : Nat} {post : Int32 → VW → Prop} {fs : List Value} (hM : Sp G l yX9_culprit cX9_culprit 2 (some .int) d2 mc2 ms2 [.ref b] w (QI post)) (hy : y.cls = "ViewCardsLaw") (he : w[b]? = some (.inr (9, fs))) (hdl : d2 < d) (hk : k + mc2 ≤ mc) (hn : n + ms2 ≤ ms) (hst : (st.map fun v => v.category).sum ≤ 8) (hdg : decode cc pc = .ok (.invokevirtual 100, 3)) (kk : ∀ (x : Int32) (w2 : VW), post x w2 → R G l y cc nL ret d mc ms Q (pc + 3) lv (.int x :: st) w2 (k + mc2) (n + ms2)) : R G l y cc nL ret d mc ms Q pc lv (.ref b :: st) w k n := R_callV (as := []) (ci := 9) hM w_1167 (by rw [hy]; exact w_1164) w_1165 w_1166 w_10 ⟨by decide, by decide, by rfl⟩ hdl (by decide) hk hn hst rfl rfl he hdg (fun r w2 h => by obtain ⟨x, rfl, h⟩ := h; exact kk x w2 h)
theorem k_L_104 {v0 v1 : Value} {b : Nat} {d2 mc2 ms2 : Nat} {post : Int32 → VW → Prop} {fs : List Value} (hM : Sp G l yX9_landmark cX9_landmark 3 (some .int) d2 mc2 ms2 [.ref b, v0, v1] w (QI post)) (hy : y.cls = "ViewCardsLaw") (he : w[b]? = some (.inr (9, fs))) (hdl : d2 < d) (hk : k + mc2 ≤ mc) (hn : n + ms2 ≤ ms) (hst : (st.map fun v => v.category).sum ≤ 8) (hdg : decode cc pc = .ok (.invokevirtual 104, 3)) (kk : ∀ (x : Int32) (w2 : VW), post x w2 → R G l y cc nL ret d mc ms Q (pc + 3) lv (.int x :: st) w2 (k + mc2) (n + ms2)) : R G l y cc nL ret d mc ms Q pc lv (v1 :: v0 :: .ref b :: st) w k n := R_callV (as := [v0, v1]) (ci := 9) hM w_1171 (by rw [hy]; exact w_1168) w_1169 w_1170 w_10 ⟨by decide, by decide, by rfl⟩ hdl (by decide) hk hn hst rfl rfl he hdg (fun r w2 h => by obtain ⟨x, rfl, h⟩ := h; exact kk x w2 h)
theorem k_L_109 {v0 : Value} {b : Nat} {d2 mc2 ms2 : Nat} {post : Int32 → VW → Prop} {fs : List Value} (hM : Sp G l yX9_walls cX9_walls 3 (some .int) d2 mc2 ms2 [.ref b, v0] w (QI post)) (hy : y.cls = "ViewCardsLaw") (he : w[b]? = some (.inr (9, fs))) (hdl : d2 < d) (hk : k + mc2 ≤ mc) (hn : n + ms2 ≤ ms) (hst : (st.map fun v => v.category).sum ≤ 8) (hdg : decode cc pc = .ok (.invokevirtual 109, 3)) (kk : ∀ (x : Int32) (w2 : VW), post x w2 → R G l y cc nL ret d mc ms Q (pc + 3) lv (.int x :: st) w2 (k + mc2) (n + ms2)) : R G l y cc nL ret d mc ms Q pc lv (v0 :: .ref b :: st) w k n := R_callV (as := [v0]) (ci := 9) hM w_1175 (by rw [hy]; exact w_1172) w_1173 w_1174 w_10 ⟨by decide, by decide, by rfl⟩ hdl (by decide) hk hn hst rfl rfl he hdg (fun r w2 h => by obtain ⟨x, rfl, h⟩ := h; exact kk x w2 h)
theorem k_L_113 {v0 v1 : Value} {b : Nat} {d2 mc2 ms2 : Nat} {post : Int32 → VW → Prop} {fs : List Value} (hM : Sp G l yX9_view cX9_view 4 (some .int) d2 mc2 ms2 [.ref b, v0, v1] w (QI post)) (hy : y.cls = "ViewCardsLaw") (he : w[b]? = some (.inr (9, fs))) (hdl : d2 < d) (hk : k + mc2 ≤ mc) (hn : n + ms2 ≤ ms) (hst : (st.map fun v => v.category).sum ≤ 8) (hdg : decode cc pc = .ok (.invokevirtual 113, 3)) (kk : ∀ (x : Int32) (w2 : VW), post x w2 → R G l y cc nL ret d mc ms Q (pc + 3) lv (.int x :: st) w2 (k + mc2) (n + ms2)) : R G l y cc nL ret d mc ms Q pc lv (v1 :: v0 :: .ref b :: st) w k n := R_callV (as := [v0, v1]) (ci := 9) hM w_1179 (by rw [hy]; exact w_1176) w_1177 w_1178 w_10 ⟨by decide, by decide, by rfl⟩ hdl (by decide) hk hn hst rfl rfl he hdg (fun r w2 h => by obtain ⟨x, rfl, h⟩ := h; exact kk x w2 h)
theorem k_L_117 {v0 : Value} {b : Nat} {d2 mc2 ms2 : Nat} {post : Int32 → VW → Prop} {fs : List Value} (hM : Sp G l yX9_unview cX9_unview 3 (some .int) d2 mc2 ms2 [.ref b, v0] w (QI post)) (hy : y.cls = "ViewCardsLaw") (he : w[b]? = some (.inr (9, fs))) (hdl : d2 < d) (hk : k + mc2 ≤ mc) (hn : n + ms2 ≤ ms) (hst : (st.map fun v => v.category).sum ≤ 8) (hdg : decode cc pc = .ok (.invokevirtual 117, 3)) (kk : ∀ (x : Int32) (w2 : VW), post x w2 → R G l y cc nL ret d mc ms Q (pc + 3) lv (.int x :: st) w2 (k + mc2) (n + ms2)) : R G l y cc nL ret d mc ms Q pc lv (v0 :: .ref b :: st) w k n := R_callV (as := [v0]) (ci := 9) hM w_1183 (by rw [hy]; exact w_1180) w_1181 w_1182 w_10 ⟨by decide, by decide, by rfl⟩ hdl (by decide) hk hn hst rfl rfl he hdg (fun r w2 h => by obtain ⟨x, rfl, h⟩ := h; exact kk x w2 h)
theorem k_L_122 {v0 : Value} {b : Nat} {d2 mc2 ms2 : Nat} {post : Int64 → VW → Prop} {fs : List Value} (hM : Sp G l yX9_stood cX9_stood 2 (some .long) d2 mc2 ms2 [.ref b, v0] w (QL post)) (hy : y.cls = "ViewCardsLaw") (he : w[b]? = some (.inr (9, fs))) (hdl : d2 < d) (hk : k + mc2 ≤ mc) (hn : n + ms2 ≤ ms) (hst : (st.map fun v => v.category).sum ≤ 8) (hdg : decode cc pc = .ok (.invokevirtual 122, 3)) (kk : ∀ (x : Int64) (w2 : VW), post x w2 → R G l y cc nL ret d mc ms Q (pc + 3) lv (.long x :: st) w2 (k + mc2) (n + ms2)) : R G l y cc nL ret d mc ms Q pc lv (v0 :: .ref b :: st) w k n := R_callV (as := [v0]) (ci := 9) hM w_1187 (by rw [hy]; exact w_1184) w_1185 w_1186 w_10 ⟨by decide, by decide, by rfl⟩ hdl (by decide) hk hn hst rfl rfl he hdg (fun r w2 h => by obtain ⟨x, rfl, h⟩ := h; exact kk x w2 h)
theorem k_X9_248 {v0 : Value} {b : Nat} {d2 mc2 ms2 : Nat} {post : Int64 → VW → Prop} {fs : List Value} (hM : Sp G l yX9_stoodOf cX9_stoodOf 5 (some .long) d2 mc2 ms2 [.ref b, v0] w (QL post)) (hy : y.cls = RX9) (he : w[b]? = some (.inr (9, fs))) (hdl : d2 < d) (hk : k + mc2 ≤ mc) (hn : n + ms2 ≤ ms) (hst : (st.map fun v => v.category).sum ≤ 8) (hdg : decode cc pc = .ok (.invokevirtual 248, 3)) (kk : ∀ (x : Int64) (w2 : VW), post x w2 → R G l y cc nL ret d mc ms Q (pc + 3) lv (.long x :: st) w2 (k + mc2) (n + ms2)) : R G l y cc nL ret d mc ms Q pc lv (v0 :: .ref b :: st) w k n := R_callV (as := [v0]) (ci := 9) hM w_1191 (by rw [hy]; exact w_1188) w_1190 ws_45 w_10 ⟨by decide, by decide, by rfl⟩ hdl (by decide) hk hn hst rfl rfl he hdg (fun r w2 h => by obtain ⟨x, rfl, h⟩ := h; exact kk x w2 h)
theorem k_X9_245 {v0 v1 : Value} {b : Nat} {d2 mc2 ms2 : Nat} {post : Int32 → VW → Prop} {fs : List Value} (hM : Sp G l yX9_mayStand cX9_mayStand 8 (some .boolean) d2 mc2 ms2 [.ref b, v0, v1] w (QI post)) (hy : y.cls = RX9) (he : w[b]? = some (.inr (9, fs))) (hdl : d2 < d) (hk : k + mc2 ≤ mc) (hn : n + ms2 ≤ ms) (hst : (st.map fun v => v.category).sum ≤ 8) (hdg : decode cc pc = .ok (.invokevirtual 245, 3)) (kk : ∀ (x : Int32) (w2 : VW), post x w2 → R G l y cc nL ret d mc ms Q (pc + 3) lv (.int x :: st) w2 (k + mc2) (n + ms2)) : R G l y cc nL ret d mc ms Q pc lv (v1 :: v0 :: .ref b :: st) w k n := R_callV (as := [v0, v1]) (ci := 9) hM w_1195 (by rw [hy]; exact w_1192) w_1194 ws_46 w_10 ⟨by decide, by decide, by rfl⟩ hdl (by decide) hk hn hst rfl rfl he hdg (fun r w2 h => by obtain ⟨x, rfl, h⟩ := h; exact kk x w2 h)
theorem k_X9_236 {v0 : Value} {b : Nat} {d2 mc2 ms2 : Nat} {post : Int32 → VW → Prop} {fs : List Value} (hM : Sp G l yX9_isWall cX9_isWall 2 (some .boolean) d2 mc2 ms2 [.ref b, v0] w (QI post)) (hy : y.cls = RX9) (he : w[b]? = some (.inr (9, fs))) (hdl : d2 < d) (hk : k + mc2 ≤ mc) (hn : n + ms2 ≤ ms) (hst : (st.map fun v => v.category).sum ≤ 8) (hdg : decode cc pc = .ok (.invokevirtual 236, 3)) (kk : ∀ (x : Int32) (w2 : VW), post x w2 → R G l y cc nL ret d mc ms Q (pc + 3) lv (.int x :: st) w2 (k + mc2) (n + ms2)) : R G l y cc nL ret d mc ms Q pc lv (v0 :: .ref b :: st) w k n := R_callV (as := [v0]) (ci := 9) hM w_1199 (by rw [hy]; exact w_1196) w_1198 ws_47 w_10 ⟨by decide, by decide, by rfl⟩ hdl (by decide) hk hn hst rfl rfl he hdg (fun r w2 h => by obtain ⟨x, rfl, h⟩ := h; exact kk x w2 h)
theorem k_X9_239 {v0 v1 : Value} {b : Nat} {d2 mc2 ms2 : Nat} {post : Int32 → VW → Prop} {fs : List Value} (hM : Sp G l yX9_isSeen cX9_isSeen 8 (some .boolean) d2 mc2 ms2 [.ref b, v0, v1] w (QI post)) (hy : y.cls = RX9) (he : w[b]? = some (.inr (9, fs))) (hdl : d2 < d) (hk : k + mc2 ≤ mc) (hn : n + ms2 ≤ ms) (hst : (st.map fun v => v.category).sum ≤ 8) (hdg : decode cc pc = .ok (.invokevirtual 239, 3)) (kk : ∀ (x : Int32) (w2 : VW), post x w2 → R G l y cc nL ret d mc ms Q (pc + 3) lv (.int x :: st) w2 (k + mc2) (n + ms2)) : R G l y cc nL ret d mc ms Q pc lv (v1 :: v0 :: .ref b :: st) w k n := R_callV (as := [v0, v1]) (ci := 9) hM w_1203 (by rw [hy]; exact w_1200) w_1202 ws_48 w_10 ⟨by decide, by decide, by rfl⟩ hdl (by decide) hk hn hst rfl rfl he hdg (fun r w2 h => by obtain ⟨x, rfl, h⟩ := h; exact kk x w2 h)
theorem k_X9_242 {v0 v1 v2 : Value} {b : Nat} {d2 mc2 ms2 : Nat} {post : Int32 → VW → Prop} {fs : List Value} (hM : Sp G l yX9_isOrdered cX9_isOrdered 8 (some .boolean) d2 mc2 ms2 [.ref b, v0, v1, v2] w (QI post)) (hy : y.cls = RX9) (he : w[b]? = some (.inr (9, fs))) (hdl : d2 < d) (hk : k + mc2 ≤ mc) (hn : n + ms2 ≤ ms) (hst : (st.map fun v => v.category).sum ≤ 8) (hdg : decode cc pc = .ok (.invokevirtual 242, 3)) (kk : ∀ (x : Int32) (w2 : VW), post x w2 → R G l y cc nL ret d mc ms Q (pc + 3) lv (.int x :: st) w2 (k + mc2) (n + ms2)) : R G l y cc nL ret d mc ms Q pc lv (v2 :: v1 :: v0 :: .ref b :: st) w k n := R_callV (as := [v0, v1, v2]) (ci := 9) hM w_1207 (by rw [hy]; exact w_1204) w_1206 ws_49 w_10 ⟨by decide, by decide, by rfl⟩ hdl (by decide) hk hn hst rfl rfl he hdg (fun r w2 h => by obtain ⟨x, rfl, h⟩ := h; exact kk x w2 h)
theorem k_L_126 {v0 : Value} {b : Nat} {d2 mc2 ms2 : Nat} {post : Int32 → VW → Prop} {fs : List Value} (hM : Sp G l yX9_together cX9_together 6 (some .int) d2 mc2 ms2 [.ref b, v0] w (QI post)) (hy : y.cls = "ViewCardsLaw") (he : w[b]? = some (.inr (9, fs))) (hdl : d2 < d) (hk : k + mc2 ≤ mc) (hn : n + ms2 ≤ ms) (hst : (st.map fun v => v.category).sum ≤ 8) (hdg : decode cc pc = .ok (.invokevirtual 126, 3)) (kk : ∀ (x : Int32) (w2 : VW), post x w2 → R G l y cc nL ret d mc ms Q (pc + 3) lv (.int x :: st) w2 (k + mc2) (n + ms2)) : R G l y cc nL ret d mc ms Q pc lv (v0 :: .ref b :: st) w k n := R_callV (as := [v0]) (ci := 9) hM w_1211 (by rw [hy]; exact w_1208) w_1209 w_1210 w_10 ⟨by decide, by decide, by rfl⟩ hdl (by decide) hk hn hst rfl rfl he hdg (fun r w2 h => by obtain ⟨x, rfl, h⟩ := h; exact kk x w2 h)
theorem k_L_131 {v0 v1 : Value} {b : Nat} {d2 mc2 ms2 : Nat} {post : Int32 → VW → Prop} {fs : List Value} (hM : Sp G l yX9_write cX9_write 5 (some .int) d2 mc2 ms2 [.ref b, v0, v1] w (QI post)) (hy : y.cls = "ViewCardsLaw") (he : w[b]? = some (.inr (9, fs))) (hdl : d2 < d) (hk : k + mc2 ≤ mc) (hn : n + ms2 ≤ ms) (hst : (st.map fun v => v.category).sum ≤ 8) (hdg : decode cc pc = .ok (.invokevirtual 131, 3)) (kk : ∀ (x : Int32) (w2 : VW), post x w2 → R G l y cc nL ret d mc ms Q (pc + 3) lv (.int x :: st) w2 (k + mc2) (n + ms2)) : R G l y cc nL ret d mc ms Q pc lv (v1 :: v0 :: .ref b :: st) w k n := R_callV (as := [v0, v1]) (ci := 9) hM w_1216 (by rw [hy]; exact w_1213) w_1214 w_1215 w_10 ⟨by decide, by decide, by rfl⟩ hdl (by decide) hk hn hst rfl rfl he hdg (fun r w2 h => by obtain ⟨x, rfl, h⟩ := h; exact kk x w2 h)
theorem k_L_135 {b : Nat} {d2 mc2 ms2 : Nat} {post : Int32 → VW → Prop} {fs : List Value} (hM : Sp G l yX9_erase cX9_erase 2 (some .int) d2 mc2 ms2 [.ref b] w (QI post)) (hy : y.cls = "ViewCardsLaw") (he : w[b]? = some (.inr (9, fs))) (hdl : d2 < d) (hk : k + mc2 ≤ mc) (hn : n + ms2 ≤ ms) (hst : (st.map fun v => v.category).sum ≤ 8) (hdg : decode cc pc = .ok (.invokevirtual 135, 3)) (kk : ∀ (x : Int32) (w2 : VW), post x w2 → R G l y cc nL ret d mc ms Q (pc + 3) lv (.int x :: st) w2 (k + mc2) (n + ms2)) : R G l y cc nL ret d mc ms Q pc lv (.ref b :: st) w k n := R_callV (as := []) (ci := 9) hM w_1220 (by rw [hy]; exact w_1217) w_1218 w_1219 w_10 ⟨by decide, by decide, by rfl⟩ hdl (by decide) hk hn hst rfl rfl he hdg (fun r w2 h => by obtain ⟨x, rfl, h⟩ := h; exact kk x w2 h)
theorem k_L_139 {b : Nat} {d2 mc2 ms2 : Nat} {post : Int32 → VW → Prop} {fs : List Value} (hM : Sp G l yX9_fault cX9_fault 1 (some .int) d2 mc2 ms2 [.ref b] w (QI post)) (hy : y.cls = "ViewCardsLaw") (he : w[b]? = some (.inr (9, fs))) (hdl : d2 < d) (hk : k + mc2 ≤ mc) (hn : n + ms2 ≤ ms) (hst : (st.map fun v => v.category).sum ≤ 8) (hdg : decode cc pc = .ok (.invokevirtual 139, 3)) (kk : ∀ (x : Int32) (w2 : VW), post x w2 → R G l y cc nL ret d mc ms Q (pc + 3) lv (.int x :: st) w2 (k + mc2) (n + ms2)) : R G l y cc nL ret d mc ms Q pc lv (.ref b :: st) w k n := R_callV (as := []) (ci := 9) hM w_1224 (by rw [hy]; exact w_1221) w_1222 w_1223 w_10 ⟨by decide, by decide, by rfl⟩ hdl (by decide) hk hn hst rfl rfl he hdg (fun r w2 h => by obtain ⟨x, rfl, h⟩ := h; exact kk x w2 h)
theorem k_X9_315 {b : Nat} {d2 mc2 ms2 : Nat} {post : Int32 → VW → Prop} {fs : List Value} (hM : Sp G l yX9_isRead cX9_isRead 2 (some .boolean) d2 mc2 ms2 [.ref b] w (QI post)) (hy : y.cls = RX9) (he : w[b]? = some (.inr (9, fs))) (hdl : d2 < d) (hk : k + mc2 ≤ mc) (hn : n + ms2 ≤ ms) (hst : (st.map fun v => v.category).sum ≤ 8) (hdg : decode cc pc = .ok (.invokevirtual 315, 3)) (kk : ∀ (x : Int32) (w2 : VW), post x w2 → R G l y cc nL ret d mc ms Q (pc + 3) lv (.int x :: st) w2 (k + mc2) (n + ms2)) : R G l y cc nL ret d mc ms Q pc lv (.ref b :: st) w k n := R_callV (as := []) (ci := 9) hM w_1228 (by rw [hy]; exact w_1225) w_1227 ws_50 w_10 ⟨by decide, by decide, by rfl⟩ hdl (by decide) hk hn hst rfl rfl he hdg (fun r w2 h => by obtain ⟨x, rfl, h⟩ := h; exact kk x w2 h)
theorem k_X9_312 {v0 : Value} {b : Nat} {d2 mc2 ms2 : Nat} {post : Int32 → VW → Prop} {fs : List Value} (hM : Sp G l yX9_isLine cX9_isLine 2 (some .boolean) d2 mc2 ms2 [.ref b, v0] w (QI post)) (hy : y.cls = RX9) (he : w[b]? = some (.inr (9, fs))) (hdl : d2 < d) (hk : k + mc2 ≤ mc) (hn : n + ms2 ≤ ms) (hst : (st.map fun v => v.category).sum ≤ 8) (hdg : decode cc pc = .ok (.invokevirtual 312, 3)) (kk : ∀ (x : Int32) (w2 : VW), post x w2 → R G l y cc nL ret d mc ms Q (pc + 3) lv (.int x :: st) w2 (k + mc2) (n + ms2)) : R G l y cc nL ret d mc ms Q pc lv (v0 :: .ref b :: st) w k n := R_callV (as := [v0]) (ci := 9) hM w_1232 (by rw [hy]; exact w_1229) w_1231 ws_51 w_10 ⟨by decide, by decide, by rfl⟩ hdl (by decide) hk hn hst rfl rfl he hdg (fun r w2 h => by obtain ⟨x, rfl, h⟩ := h; exact kk x w2 h)
theorem k_X9_294 {v0 : Value} {b : Nat} {d2 mc2 ms2 : Nat} {post : Int32 → VW → Prop} {fs : List Value} (hM : Sp G l yX9_isWord cX9_isWord 3 (some .boolean) d2 mc2 ms2 [.ref b, v0] w (QI post)) (hy : y.cls = RX9) (he : w[b]? = some (.inr (9, fs))) (hdl : d2 < d) (hk : k + mc2 ≤ mc) (hn : n + ms2 ≤ ms) (hst : (st.map fun v => v.category).sum ≤ 8) (hdg : decode cc pc = .ok (.invokevirtual 294, 3)) (kk : ∀ (x : Int32) (w2 : VW), post x w2 → R G l y cc nL ret d mc ms Q (pc + 3) lv (.int x :: st) w2 (k + mc2) (n + ms2)) : R G l y cc nL ret d mc ms Q pc lv (v0 :: .ref b :: st) w k n := R_callV (as := [v0]) (ci := 9) hM w_1237 (by rw [hy]; exact w_1234) w_1236 ws_52 w_10 ⟨by decide, by decide, by rfl⟩ hdl (by decide) hk hn hst rfl rfl he hdg (fun r w2 h => by obtain ⟨x, rfl, h⟩ := h; exact kk x w2 h)
theorem k_X9_285 {b : Nat} {d2 mc2 ms2 : Nat} {post : VW → Prop} {fs : List Value} (hM : Sp G l yX9_nextToken cX9_nextToken 1 none d2 mc2 ms2 [.ref b] w (QV post)) (hy : y.cls = RX9) (he : w[b]? = some (.inr (9, fs))) (hdl : d2 < d) (hk : k + mc2 ≤ mc) (hn : n + ms2 ≤ ms) (hst : (st.map fun v => v.category).sum ≤ 8) (hdg : decode cc pc = .ok (.invokevirtual 285, 3)) (kk : ∀ (w2 : VW), post w2 → R G l y cc nL ret d mc ms Q (pc + 3) lv st w2 (k + mc2) (n + ms2)) : R G l y cc nL ret d mc ms Q pc lv (.ref b :: st) w k n := R_callV (as := []) (ci := 9) hM w_1241 (by rw [hy]; exact w_1238) w_1240 ws_53 w_10 ⟨by decide, by decide, by rfl⟩ hdl (by decide) hk hn hst rfl rfl he hdg (fun r w2 h => by obtain ⟨rfl, h⟩ := h; exact kk w2 h)
theorem k_X9_288 {b : Nat} {d2 mc2 ms2 : Nat} {post : Int32 → VW → Prop} {fs : List Value} (hM : Sp G l yX9_fails cX9_fails 1 (some .boolean) d2 mc2 ms2 [.ref b] w (QI post)) (hy : y.cls = RX9) (he : w[b]? = some (.inr (9, fs))) (hdl : d2 < d) (hk : k + mc2 ≤ mc) (hn : n + ms2 ≤ ms) (hst : (st.map fun v => v.category).sum ≤ 8) (hdg : decode cc pc = .ok (.invokevirtual 288, 3)) (kk : ∀ (x : Int32) (w2 : VW), post x w2 → R G l y cc nL ret d mc ms Q (pc + 3) lv (.int x :: st) w2 (k + mc2) (n + ms2)) : R G l y cc nL ret d mc ms Q pc lv (.ref b :: st) w k n := R_callV (as := []) (ci := 9) hM w_1250 (by rw [hy]; exact w_1247) w_1249 ws_54 w_10 ⟨by decide, by decide, by rfl⟩ hdl (by decide) hk hn hst rfl rfl he hdg (fun r w2 h => by obtain ⟨x, rfl, h⟩ := h; exact kk x w2 h)
theorem k_X9_298 {v0 v1 v2 : Value} {b : Nat} {d2 mc2 ms2 : Nat} {post : Int32 → VW → Prop} {fs : List Value} (hM : Sp G l yX9_isNumber cX9_isNumber 4 (some .boolean) d2 mc2 ms2 [.ref b, v0, v1, v2] w (QI post)) (hy : y.cls = RX9) (he : w[b]? = some (.inr (9, fs))) (hdl : d2 < d) (hk : k + mc2 ≤ mc) (hn : n + ms2 ≤ ms) (hst : (st.map fun v => v.category).sum ≤ 8) (hdg : decode cc pc = .ok (.invokevirtual 298, 3)) (kk : ∀ (x : Int32) (w2 : VW), post x w2 → R G l y cc nL ret d mc ms Q (pc + 3) lv (.int x :: st) w2 (k + mc2) (n + ms2)) : R G l y cc nL ret d mc ms Q pc lv (v2 :: v1 :: v0 :: .ref b :: st) w k n := R_callV (as := [v0, v1, v2]) (ci := 9) hM w_1254 (by rw [hy]; exact w_1251) w_1253 ws_55 w_10 ⟨by decide, by decide, by rfl⟩ hdl (by decide) hk hn hst rfl rfl he hdg (fun r w2 h => by obtain ⟨x, rfl, h⟩ := h; exact kk x w2 h)
theorem k_L_143 {b : Nat} {d2 mc2 ms2 : Nat} {post : Int32 → VW → Prop} {fs : List Value} (hM : Sp G l yX9_catalogue cX9_catalogue 2 (some .int) d2 mc2 ms2 [.ref b] w (QI post)) (hy : y.cls = "ViewCardsLaw") (he : w[b]? = some (.inr (9, fs))) (hdl : d2 < d) (hk : k + mc2 ≤ mc) (hn : n + ms2 ≤ ms) (hst : (st.map fun v => v.category).sum ≤ 8) (hdg : decode cc pc = .ok (.invokevirtual 143, 3)) (kk : ∀ (x : Int32) (w2 : VW), post x w2 → R G l y cc nL ret d mc ms Q (pc + 3) lv (.int x :: st) w2 (k + mc2) (n + ms2)) : R G l y cc nL ret d mc ms Q pc lv (.ref b :: st) w k n := R_callV (as := []) (ci := 9) hM w_1262 (by rw [hy]; exact w_1259) w_1260 w_1261 w_10 ⟨by decide, by decide, by rfl⟩ hdl (by decide) hk hn hst rfl rfl he hdg (fun r w2 h => by obtain ⟨x, rfl, h⟩ := h; exact kk x w2 h)
theorem k_L_147 {v0 : Value} {b : Nat} {d2 mc2 ms2 : Nat} {post : Int32 → VW → Prop} {fs : List Value} (hM : Sp G l yX9_breaks cX9_breaks 6 (some .int) d2 mc2 ms2 [.ref b, v0] w (QI post)) (hy : y.cls = "ViewCardsLaw") (he : w[b]? = some (.inr (9, fs))) (hdl : d2 < d) (hk : k + mc2 ≤ mc) (hn : n + ms2 ≤ ms) (hst : (st.map fun v => v.category).sum ≤ 8) (hdg : decode cc pc = .ok (.invokevirtual 147, 3)) (kk : ∀ (x : Int32) (w2 : VW), post x w2 → R G l y cc nL ret d mc ms Q (pc + 3) lv (.int x :: st) w2 (k + mc2) (n + ms2)) : R G l y cc nL ret d mc ms Q pc lv (v0 :: .ref b :: st) w k n := R_callV (as := [v0]) (ci := 9) hM w_1266 (by rw [hy]; exact w_1263) w_1264 w_1265 w_10 ⟨by decide, by decide, by rfl⟩ hdl (by decide) hk hn hst rfl rfl he hdg (fun r w2 h => by obtain ⟨x, rfl, h⟩ := h; exact kk x w2 h)
theorem k_L_151 {v0 : Value} {b : Nat} {d2 mc2 ms2 : Nat} {post : Int32 → VW → Prop} {fs : List Value} (hM : Sp G l yX9_count cX9_count 4 (some .int) d2 mc2 ms2 [.ref b, v0] w (QI post)) (hy : y.cls = "ViewCardsLaw") (he : w[b]? = some (.inr (9, fs))) (hdl : d2 < d) (hk : k + mc2 ≤ mc) (hn : n + ms2 ≤ ms) (hst : (st.map fun v => v.category).sum ≤ 8) (hdg : decode cc pc = .ok (.invokevirtual 151, 3)) (kk : ∀ (x : Int32) (w2 : VW), post x w2 → R G l y cc nL ret d mc ms Q (pc + 3) lv (.int x :: st) w2 (k + mc2) (n + ms2)) : R G l y cc nL ret d mc ms Q pc lv (v0 :: .ref b :: st) w k n := R_callV (as := [v0]) (ci := 9) hM w_1270 (by rw [hy]; exact w_1267) w_1268 w_1269 w_10 ⟨by decide, by decide, by rfl⟩ hdl (by decide) hk hn hst rfl rfl he hdg (fun r w2 h => by obtain ⟨x, rfl, h⟩ := h; exact kk x w2 h)
theorem k_X8_9 {b : Nat} {d2 mc2 ms2 : Nat} {post : VW → Prop} (hM : Sp G l yX0_init cX0_init 1 none d2 mc2 ms2 [.ref b] w (QV post)) (hy : y.cls = RX8) (hdl : d2 < d) (hk : k + mc2 ≤ mc) (hn : n + ms2 ≤ ms) (hst : (st.map fun v => v.category).sum ≤ 8) (hdg : decode cc pc = .ok (.invokespecial 9, 3)) (kk : ∀ (w2 : VW), post w2 → R G l y cc nL ret d mc ms Q (pc + 3) lv st w2 (k + mc2) (n + ms2)) : R G l y cc nL ret d mc ms Q pc lv (.ref b :: st) w k n := R_callIN (as := []) hM w_30 (by rw [hy]; decide) w_29 w_2 rfl ⟨by decide, by decide, by rfl⟩ hdl (by decide) hk hn hst hdg (fun r w2 h => by obtain ⟨rfl, h⟩ := h; exact kk w2 h)
theorem k_X1_37 {b : Nat} {d2 mc2 ms2 : Nat} {post : VW → Prop} (hM : Sp G l yX7_init cX7_init 1 none d2 mc2 ms2 [.ref b] w (QV post)) (hy : y.cls = RX1) (hdl : d2 < d) (hk : k + mc2 ≤ mc) (hn : n + ms2 ≤ ms) (hst : (st.map fun v => v.category).sum ≤ 8) (hdg : decode cc pc = .ok (.invokespecial 37, 3)) (kk : ∀ (w2 : VW), post w2 → R G l y cc nL ret d mc ms Q (pc + 3) lv st w2 (k + mc2) (n + ms2)) : R G l y cc nL ret d mc ms Q pc lv (.ref b :: st) w k n := R_callIN (as := []) hM w_162 (by rw [hy]; decide) w_161 w_6 rfl ⟨by decide, by decide, by rfl⟩ hdl (by decide) hk hn hst hdg (fun r w2 h => by obtain ⟨rfl, h⟩ := h; exact kk w2 h)
theorem k_X8_50 {b : Nat} {d2 mc2 ms2 : Nat} {post : VW → Prop} (hM : Sp G l yX6_init cX6_init 1 none d2 mc2 ms2 [.ref b] w (QV post)) (hy : y.cls = RX8) (hdl : d2 < d) (hk : k + mc2 ≤ mc) (hn : n + ms2 ≤ ms) (hst : (st.map fun v => v.category).sum ≤ 8) (hdg : decode cc pc = .ok (.invokespecial 50, 3)) (kk : ∀ (w2 : VW), post w2 → R G l y cc nL ret d mc ms Q (pc + 3) lv st w2 (k + mc2) (n + ms2)) : R G l y cc nL ret d mc ms Q pc lv (.ref b :: st) w k n := R_callIN (as := []) hM w_258 (by rw [hy]; decide) w_257 w_8 rfl ⟨by decide, by decide, by rfl⟩ hdl (by decide) hk hn hst hdg (fun r w2 h => by obtain ⟨rfl, h⟩ := h; exact kk w2 h)
theorem k_X8_57 {b : Nat} {d2 mc2 ms2 : Nat} {post : VW → Prop} (hM : Sp G l yX4_init cX4_init 1 none d2 mc2 ms2 [.ref b] w (QV post)) (hy : y.cls = RX8) (hdl : d2 < d) (hk : k + mc2 ≤ mc) (hn : n + ms2 ≤ ms) (hst : (st.map fun v => v.category).sum ≤ 8) (hdg : decode cc pc = .ok (.invokespecial 57, 3)) (kk : ∀ (w2 : VW), post w2 → R G l y cc nL ret d mc ms Q (pc + 3) lv st w2 (k + mc2) (n + ms2)) : R G l y cc nL ret d mc ms Q pc lv (.ref b :: st) w k n := R_callIN (as := []) hM w_282 (by rw [hy]; decide) w_281 w_9 rfl ⟨by decide, by decide, by rfl⟩ hdl (by decide) hk hn hst hdg (fun r w2 h => by obtain ⟨rfl, h⟩ := h; exact kk w2 h)
theorem k_X3_78 {v0 v1 : Value} {d2 mc2 ms2 : Nat} {post : Int32 → VW → Prop} (hM : Sp G l yX8_byteOf cX8_byteOf 3 (some .int) d2 mc2 ms2 [v0, v1] w (QI post)) (hy : y.cls = RX3) (hdl : d2 < d) (hk : k + mc2 ≤ mc) (hn : n + ms2 ≤ ms) (hst : (st.map fun v => v.category).sum ≤ 8) (hdg : decode cc pc = .ok (.invokestatic 78, 3)) (kk : ∀ (x : Int32) (w2 : VW), post x w2 → R G l y cc nL ret d mc ms Q (pc + 3) lv (.int x :: st) w2 (k + mc2) (n + ms2)) : R G l y cc nL ret d mc ms Q pc lv (v1 :: v0 :: st) w k n := R_callSN (as := [v0, v1]) hM w_398 (by rw [hy]; decide) w_397 w_1 ⟨by decide, by decide, by rfl⟩ hdl (by decide) hk hn hst hdg (fun r w2 h => by obtain ⟨x, rfl, h⟩ := h; exact kk x w2 h)
theorem k_X3_102 {v0 : Value} {d2 mc2 ms2 : Nat} {post : Int32 → VW → Prop} (hM : Sp G l yX8_lowest cX8_lowest 1 (some .int) d2 mc2 ms2 [v0] w (QI post)) (hy : y.cls = RX3) (hdl : d2 < d) (hk : k + mc2 ≤ mc) (hn : n + ms2 ≤ ms) (hst : (st.map fun v => v.category).sum ≤ 8) (hdg : decode cc pc = .ok (.invokestatic 102, 3)) (kk : ∀ (x : Int32) (w2 : VW), post x w2 → R G l y cc nL ret d mc ms Q (pc + 3) lv (.int x :: st) w2 (k + mc2) (n + ms2)) : R G l y cc nL ret d mc ms Q pc lv (v0 :: st) w k n := R_callSN (as := [v0]) hM w_447 (by rw [hy]; decide) w_446 w_1 ⟨by decide, by decide, by rfl⟩ hdl (by decide) hk hn hst hdg (fun r w2 h => by obtain ⟨x, rfl, h⟩ := h; exact kk x w2 h)
theorem k_X3_106 {v0 v1 : Value} {d2 mc2 ms2 : Nat} {post : Int32 → VW → Prop} (hM : Sp G l yX8_has cX8_has 2 (some .boolean) d2 mc2 ms2 [v0, v1] w (QI post)) (hy : y.cls = RX3) (hdl : d2 < d) (hk : k + mc2 ≤ mc) (hn : n + ms2 ≤ ms) (hst : (st.map fun v => v.category).sum ≤ 8) (hdg : decode cc pc = .ok (.invokestatic 106, 3)) (kk : ∀ (x : Int32) (w2 : VW), post x w2 → R G l y cc nL ret d mc ms Q (pc + 3) lv (.int x :: st) w2 (k + mc2) (n + ms2)) : R G l y cc nL ret d mc ms Q pc lv (v1 :: v0 :: st) w k n := R_callSN (as := [v0, v1]) hM w_456 (by rw [hy]; decide) w_455 w_1 ⟨by decide, by decide, by rfl⟩ hdl (by decide) hk hn hst hdg (fun r w2 h => by obtain ⟨x, rfl, h⟩ := h; exact kk x w2 h)
theorem k_X0_61 {v0 v1 : Value} {d2 mc2 ms2 : Nat} {post : Int32 → VW → Prop} (hM : Sp G l yX8_has cX8_has 2 (some .boolean) d2 mc2 ms2 [v0, v1] w (QI post)) (hy : y.cls = RX0) (hdl : d2 < d) (hk : k + mc2 ≤ mc) (hn : n + ms2 ≤ ms) (hst : (st.map fun v => v.category).sum ≤ 8) (hdg : decode cc pc = .ok (.invokestatic 61, 3)) (kk : ∀ (x : Int32) (w2 : VW), post x w2 → R G l y cc nL ret d mc ms Q (pc + 3) lv (.int x :: st) w2 (k + mc2) (n + ms2)) : R G l y cc nL ret d mc ms Q pc lv (v1 :: v0 :: st) w k n := R_callSN (as := [v0, v1]) hM w_456 (by rw [hy]; decide) w_455 w_1 ⟨by decide, by decide, by rfl⟩ hdl (by decide) hk hn hst hdg (fun r w2 h => by obtain ⟨x, rfl, h⟩ := h; exact kk x w2 h)
theorem k_X1_60 {v0 v1 : Value} {d2 mc2 ms2 : Nat} {post : Int32 → VW → Prop} (hM : Sp G l yX8_has cX8_has 2 (some .boolean) d2 mc2 ms2 [v0, v1] w (QI post)) (hy : y.cls = RX1) (hdl : d2 < d) (hk : k + mc2 ≤ mc) (hn : n + ms2 ≤ ms) (hst : (st.map fun v => v.category).sum ≤ 8) (hdg : decode cc pc = .ok (.invokestatic 60, 3)) (kk : ∀ (x : Int32) (w2 : VW), post x w2 → R G l y cc nL ret d mc ms Q (pc + 3) lv (.int x :: st) w2 (k + mc2) (n + ms2)) : R G l y cc nL ret d mc ms Q pc lv (v1 :: v0 :: st) w k n := R_callSN (as := [v0, v1]) hM w_456 (by rw [hy]; decide) w_455 w_1 ⟨by decide, by decide, by rfl⟩ hdl (by decide) hk hn hst hdg (fun r w2 h => by obtain ⟨x, rfl, h⟩ := h; exact kk x w2 h)
theorem k_X4_31 {v0 v1 v2 : Value} {d2 mc2 ms2 : Nat} {post : Int32 → VW → Prop} (hM : Sp G l yX8_isWithin cX8_isWithin 3 (some .boolean) d2 mc2 ms2 [v0, v1, v2] w (QI post)) (hy : y.cls = RX4) (hdl : d2 < d) (hk : k + mc2 ≤ mc) (hn : n + ms2 ≤ ms) (hst : (st.map fun v => v.category).sum ≤ 8) (hdg : decode cc pc = .ok (.invokestatic 31, 3)) (kk : ∀ (x : Int32) (w2 : VW), post x w2 → R G l y cc nL ret d mc ms Q (pc + 3) lv (.int x :: st) w2 (k + mc2) (n + ms2)) : R G l y cc nL ret d mc ms Q pc lv (v2 :: v1 :: v0 :: st) w k n := R_callSN (as := [v0, v1, v2]) hM w_357 (by rw [hy]; decide) w_356 w_1 ⟨by decide, by decide, by rfl⟩ hdl (by decide) hk hn hst hdg (fun r w2 h => by obtain ⟨x, rfl, h⟩ := h; exact kk x w2 h)
theorem k_X1_142 {v0 v1 v2 : Value} {d2 mc2 ms2 : Nat} {post : Int32 → VW → Prop} (hM : Sp G l yX8_isWithin cX8_isWithin 3 (some .boolean) d2 mc2 ms2 [v0, v1, v2] w (QI post)) (hy : y.cls = RX1) (hdl : d2 < d) (hk : k + mc2 ≤ mc) (hn : n + ms2 ≤ ms) (hst : (st.map fun v => v.category).sum ≤ 8) (hdg : decode cc pc = .ok (.invokestatic 142, 3)) (kk : ∀ (x : Int32) (w2 : VW), post x w2 → R G l y cc nL ret d mc ms Q (pc + 3) lv (.int x :: st) w2 (k + mc2) (n + ms2)) : R G l y cc nL ret d mc ms Q pc lv (v2 :: v1 :: v0 :: st) w k n := R_callSN (as := [v0, v1, v2]) hM w_357 (by rw [hy]; decide) w_356 w_1 ⟨by decide, by decide, by rfl⟩ hdl (by decide) hk hn hst hdg (fun r w2 h => by obtain ⟨x, rfl, h⟩ := h; exact kk x w2 h)
theorem k_X2_49 {v0 v1 : Value} {d2 mc2 ms2 : Nat} {post : Int32 → VW → Prop} (hM : Sp G l yX8_commonDivisor cX8_commonDivisor 6 (some .int) d2 mc2 ms2 [v0, v1] w (QI post)) (hy : y.cls = RX2) (hdl : d2 < d) (hk : k + mc2 ≤ mc) (hn : n + ms2 ≤ ms) (hst : (st.map fun v => v.category).sum ≤ 8) (hdg : decode cc pc = .ok (.invokestatic 49, 3)) (kk : ∀ (x : Int32) (w2 : VW), post x w2 → R G l y cc nL ret d mc ms Q (pc + 3) lv (.int x :: st) w2 (k + mc2) (n + ms2)) : R G l y cc nL ret d mc ms Q pc lv (v1 :: v0 :: st) w k n := R_callSN (as := [v0, v1]) hM w_561 (by rw [hy]; decide) w_560 w_1 ⟨by decide, by decide, by rfl⟩ hdl (by decide) hk hn hst hdg (fun r w2 h => by obtain ⟨x, rfl, h⟩ := h; exact kk x w2 h)
theorem k_X6_114 {v0 : Value} {d2 mc2 ms2 : Nat} {post : Int32 → VW → Prop} (hM : Sp G l yX8_isLetter cX8_isLetter 1 (some .boolean) d2 mc2 ms2 [v0] w (QI post)) (hy : y.cls = RX6) (hdl : d2 < d) (hk : k + mc2 ≤ mc) (hn : n + ms2 ≤ ms) (hst : (st.map fun v => v.category).sum ≤ 8) (hdg : decode cc pc = .ok (.invokestatic 114, 3)) (kk : ∀ (x : Int32) (w2 : VW), post x w2 → R G l y cc nL ret d mc ms Q (pc + 3) lv (.int x :: st) w2 (k + mc2) (n + ms2)) : R G l y cc nL ret d mc ms Q pc lv (v0 :: st) w k n := R_callSN (as := [v0]) hM w_411 (by rw [hy]; decide) w_410 w_1 ⟨by decide, by decide, by rfl⟩ hdl (by decide) hk hn hst hdg (fun r w2 h => by obtain ⟨x, rfl, h⟩ := h; exact kk x w2 h)
theorem k_X6_101 {v0 : Value} {d2 mc2 ms2 : Nat} {post : Int32 → VW → Prop} (hM : Sp G l yX8_isDigit cX8_isDigit 1 (some .boolean) d2 mc2 ms2 [v0] w (QI post)) (hy : y.cls = RX6) (hdl : d2 < d) (hk : k + mc2 ≤ mc) (hn : n + ms2 ≤ ms) (hst : (st.map fun v => v.category).sum ≤ 8) (hdg : decode cc pc = .ok (.invokestatic 101, 3)) (kk : ∀ (x : Int32) (w2 : VW), post x w2 → R G l y cc nL ret d mc ms Q (pc + 3) lv (.int x :: st) w2 (k + mc2) (n + ms2)) : R G l y cc nL ret d mc ms Q pc lv (v0 :: st) w k n := R_callSN (as := [v0]) hM w_726 (by rw [hy]; decide) w_725 w_1 ⟨by decide, by decide, by rfl⟩ hdl (by decide) hk hn hst hdg (fun r w2 h => by obtain ⟨x, rfl, h⟩ := h; exact kk x w2 h)
theorem k_X6_88 {v0 v1 v2 : Value} {d2 mc2 ms2 : Nat} {post : Int32 → VW → Prop} (hM : Sp G l yX8_isWithin cX8_isWithin 3 (some .boolean) d2 mc2 ms2 [v0, v1, v2] w (QI post)) (hy : y.cls = RX6) (hdl : d2 < d) (hk : k + mc2 ≤ mc) (hn : n + ms2 ≤ ms) (hst : (st.map fun v => v.category).sum ≤ 8) (hdg : decode cc pc = .ok (.invokestatic 88, 3)) (kk : ∀ (x : Int32) (w2 : VW), post x w2 → R G l y cc nL ret d mc ms Q (pc + 3) lv (.int x :: st) w2 (k + mc2) (n + ms2)) : R G l y cc nL ret d mc ms Q pc lv (v2 :: v1 :: v0 :: st) w k n := R_callSN (as := [v0, v1, v2]) hM w_357 (by rw [hy]; decide) w_356 w_1 ⟨by decide, by decide, by rfl⟩ hdl (by decide) hk hn hst hdg (fun r w2 h => by obtain ⟨x, rfl, h⟩ := h; exact kk x w2 h)
end LINKS
end
section
/-! THE WORLD of both sides, of a state: ints by 100 * place + field, longs likewise, arrays by their places, lines and draft -/
abbrev Sg : Type := (Nat → Int32) × (Nat → Int64) × (Nat → Nat → Int32) × (Nat → Nat → Int64) × Nat × Nat
abbrev uI (σ : Sg) (k : Nat) (v : Int32) : Sg := (va_up σ.1 k v, σ.2)
abbrev uJ (σ : Sg) (k : Nat) (v : Int64) : Sg := (σ.1, va_up σ.2.1 k v, σ.2.2)
abbrev uA (σ : Sg) (k : Nat) (f : Nat → Int32) : Sg := (σ.1, σ.2.1, va_up σ.2.2.1 k f, σ.2.2.2)
abbrev uB (σ : Sg) (k : Nat) (f : Nat → Int64) : Sg := (σ.1, σ.2.1, σ.2.2.1, va_up σ.2.2.2.1 k f, σ.2.2.2.2)
abbrev uN (σ : Sg) (a b : Nat) : Sg := (σ.1, σ.2.1, σ.2.2.1, σ.2.2.2.1, a, b)
def fs0 (σ : Sg) : List Value := [.ref 1, .ref 12, .ref 56, .ref 58, .ref 93, .ref 117, .ref 119, .ref σ.2.2.2.2.1, .ref σ.2.2.2.2.2, .int (σ.1 9)]
def fs1 (σ : Sg) : List Value := [.ref 2, .ref 3, .ref 4, .ref 5, .ref 6, .ref 7, .ref 8, .ref 9, .ref 10, .ref 11, .int (σ.1 110), .int (σ.1 111), .int (σ.1 112)]
def fs12 (σ : Sg) : List Value := [.ref 1, .ref 13, .ref 34, .ref 55, .int (σ.1 1204)]
def fs56 (σ : Sg) : List Value := [.ref 1, .ref 57, .int (σ.1 5602), .int (σ.1 5603), .int (σ.1 5604)]
def fs58 (σ : Sg) : List Value := [.ref 1, .ref 12, .ref 59, .ref 60, .ref 61, .ref 62, .ref 63, .ref 84, .ref 85, .int (σ.1 5809), .ref 86, .ref 89, .ref 92]
def fs86 (σ : Sg) : List Value := [.ref 87, .ref 88, .int (σ.1 8602)]
def fs89 (σ : Sg) : List Value := [.ref 90, .ref 91, .int (σ.1 8902)]
def fs93 (σ : Sg) : List Value := [.ref 94, .long (σ.2.1 9301), .ref 95, .ref 116]
def fs117 (σ : Sg) : List Value := [.ref 118, .int (σ.1 11701), .int (σ.1 11702), .int (σ.1 11703), .int (σ.1 11704)]
def fs119 (σ : Sg) : List Value := [.ref 120, .ref 121, .ref 122, .ref 123, .ref 124, .ref 125, .int (σ.1 11906)]
def fs126 (σ : Sg) : List Value := [.ref 127, .ref 128, .ref 129, .ref 130, .ref 131, .ref 132, .int (σ.1 12606)]
def fs133 (σ : Sg) : List Value := [.ref 134, .ref 135, .ref 136, .ref 137, .ref 138, .ref 139, .int (σ.1 13306)]
def fs140 (σ : Sg) : List Value := [.int (σ.1 14000), .ref 141, .ref 142, .ref 143, .ref 144, .ref 145, .ref 146, .ref 147, .ref 148, .ref 149, .ref 150, .int (σ.1 14011), .int (σ.1 14012), .int (σ.1 14013), .int (σ.1 14014), .ref 151, .ref 152, .ref 153, .ref 154, .ref 155, .ref 156, .ref 157, .ref 158, .ref 159, .ref 160, .int (σ.1 14025), .ref 161, .ref 162, .ref 163, .ref 164, .ref 165, .ref 166, .int (σ.1 14032), .ref 167, .long (σ.2.1 14034), .ref 168, .ref 169, .int (σ.1 14037), .ref 170, .int (σ.1 14039), .int (σ.1 14040), .long (σ.2.1 14041), .int (σ.1 14042), .int (σ.1 14043), .int (σ.1 14044), .int (σ.1 14045), .ref 171, .int (σ.1 14047), .ref 172]
def WW (σ : Sg) : VW := [.inr (8, fs0 σ), .inr (0, fs1 σ), .inl (0, 20, .inl (σ.2.2.1 2)), .inl (0, 20, .inl (σ.2.2.1 3)), .inl (0, 20, .inl (σ.2.2.1 4)), .inl (0, 20, .inl (σ.2.2.1 5)), .inl (1, 20, .inr (.inl (σ.2.2.2.1 6))), .inl (0, 20, .inl (σ.2.2.1 7)), .inl (0, 20, .inl (σ.2.2.1 8)), .inl (0, 20, .inl (σ.2.2.1 9)), .inl (1, 20, .inr (.inl (σ.2.2.2.1 10))), .inl (0, 20, .inl (σ.2.2.1 11)), .inr (3, fs12 σ), .inl (3, 20, .inr (.inr (.inr (.inr (fun i => if i < 20 then some (14 + i) else none))))), .inl (0, 20, .inl (σ.2.2.1 14)), .inl (0, 20, .inl (σ.2.2.1 15)), .inl (0, 20, .inl (σ.2.2.1 16)), .inl (0, 20, .inl (σ.2.2.1 17)), .inl (0, 20, .inl (σ.2.2.1 18)), .inl (0, 20, .inl (σ.2.2.1 19)), .inl (0, 20, .inl (σ.2.2.1 20)), .inl (0, 20, .inl (σ.2.2.1 21)), .inl (0, 20, .inl (σ.2.2.1 22)), .inl (0, 20, .inl (σ.2.2.1 23)), .inl (0, 20, .inl (σ.2.2.1 24)), .inl (0, 20, .inl (σ.2.2.1 25)), .inl (0, 20, .inl (σ.2.2.1 26)), .inl (0, 20, .inl (σ.2.2.1 27)), .inl (0, 20, .inl (σ.2.2.1 28)), .inl (0, 20, .inl (σ.2.2.1 29)), .inl (0, 20, .inl (σ.2.2.1 30)), .inl (0, 20, .inl (σ.2.2.1 31)), .inl (0, 20, .inl (σ.2.2.1 32)), .inl (0, 20, .inl (σ.2.2.1 33)), .inl (3, 20, .inr (.inr (.inr (.inr (fun i => if i < 20 then some (35 + i) else none))))), .inl (0, 20, .inl (σ.2.2.1 35)), .inl (0, 20, .inl (σ.2.2.1 36)), .inl (0, 20, .inl (σ.2.2.1 37)), .inl (0, 20, .inl (σ.2.2.1 38)), .inl (0, 20, .inl (σ.2.2.1 39)), .inl (0, 20, .inl (σ.2.2.1 40)), .inl (0, 20, .inl (σ.2.2.1 41)), .inl (0, 20, .inl (σ.2.2.1 42)), .inl (0, 20, .inl (σ.2.2.1 43)), .inl (0, 20, .inl (σ.2.2.1 44)), .inl (0, 20, .inl (σ.2.2.1 45)), .inl (0, 20, .inl (σ.2.2.1 46)), .inl (0, 20, .inl (σ.2.2.1 47)), .inl (0, 20, .inl (σ.2.2.1 48)), .inl (0, 20, .inl (σ.2.2.1 49)), .inl (0, 20, .inl (σ.2.2.1 50)), .inl (0, 20, .inl (σ.2.2.1 51)), .inl (0, 20, .inl (σ.2.2.1 52)), .inl (0, 20, .inl (σ.2.2.1 53)), .inl (0, 20, .inl (σ.2.2.1 54)), .inl (0, 9, .inl (σ.2.2.1 55)), .inr (5, fs56 σ), .inl (2, 100, .inl (σ.2.2.1 57)), .inr (1, fs58 σ), .inl (0, 8, .inl (σ.2.2.1 59)), .inl (0, 8, .inl (σ.2.2.1 60)), .inl (0, 5, .inl (σ.2.2.1 61)), .inl (0, 5, .inl (σ.2.2.1 62)), .inl (3, 20, .inr (.inr (.inr (.inr (fun i => if i < 20 then some (64 + i) else none))))), .inl (0, 8, .inl (σ.2.2.1 64)), .inl (0, 8, .inl (σ.2.2.1 65)), .inl (0, 8, .inl (σ.2.2.1 66)), .inl (0, 8, .inl (σ.2.2.1 67)), .inl (0, 8, .inl (σ.2.2.1 68)), .inl (0, 8, .inl (σ.2.2.1 69)), .inl (0, 8, .inl (σ.2.2.1 70)), .inl (0, 8, .inl (σ.2.2.1 71)), .inl (0, 8, .inl (σ.2.2.1 72)), .inl (0, 8, .inl (σ.2.2.1 73)), .inl (0, 8, .inl (σ.2.2.1 74)), .inl (0, 8, .inl (σ.2.2.1 75)), .inl (0, 8, .inl (σ.2.2.1 76)), .inl (0, 8, .inl (σ.2.2.1 77)), .inl (0, 8, .inl (σ.2.2.1 78)), .inl (0, 8, .inl (σ.2.2.1 79)), .inl (0, 8, .inl (σ.2.2.1 80)), .inl (0, 8, .inl (σ.2.2.1 81)), .inl (0, 8, .inl (σ.2.2.1 82)), .inl (0, 8, .inl (σ.2.2.1 83)), .inl (0, 12, .inl (σ.2.2.1 84)), .inl (0, 12, .inl (σ.2.2.1 85)), .inr (7, fs86 σ), .inl (0, 20, .inl (σ.2.2.1 87)), .inl (0, 20, .inl (σ.2.2.1 88)), .inr (7, fs89 σ), .inl (0, 20, .inl (σ.2.2.1 90)), .inl (0, 20, .inl (σ.2.2.1 91)), .inl (0, 20, .inl (σ.2.2.1 92)), .inr (2, fs93 σ), .inl (0, 8, .inl (σ.2.2.1 94)), .inl (3, 20, .inr (.inr (.inr (.inr (fun i => if i < 20 then some (96 + i) else none))))), .inl (0, 5, .inl (σ.2.2.1 96)), .inl (0, 5, .inl (σ.2.2.1 97)), .inl (0, 5, .inl (σ.2.2.1 98)), .inl (0, 5, .inl (σ.2.2.1 99)), .inl (0, 5, .inl (σ.2.2.1 100)), .inl (0, 5, .inl (σ.2.2.1 101)), .inl (0, 5, .inl (σ.2.2.1 102)), .inl (0, 5, .inl (σ.2.2.1 103)), .inl (0, 5, .inl (σ.2.2.1 104)), .inl (0, 5, .inl (σ.2.2.1 105)), .inl (0, 5, .inl (σ.2.2.1 106)), .inl (0, 5, .inl (σ.2.2.1 107)), .inl (0, 5, .inl (σ.2.2.1 108)), .inl (0, 5, .inl (σ.2.2.1 109)), .inl (0, 5, .inl (σ.2.2.1 110)), .inl (0, 5, .inl (σ.2.2.1 111)), .inl (0, 5, .inl (σ.2.2.1 112)), .inl (0, 5, .inl (σ.2.2.1 113)), .inl (0, 5, .inl (σ.2.2.1 114)), .inl (0, 5, .inl (σ.2.2.1 115)), .inl (0, 20, .inl (σ.2.2.1 116)), .inr (6, fs117 σ), .inl (0, 160, .inl (σ.2.2.1 118)), .inr (4, fs119 σ), .inl (0, 8, .inl (σ.2.2.1 120)), .inl (0, 8, .inl (σ.2.2.1 121)), .inl (0, 8, .inl (σ.2.2.1 122)), .inl (2, 8, .inl (σ.2.2.1 123)), .inl (0, 8, .inl (σ.2.2.1 124)), .inl (0, 8, .inl (σ.2.2.1 125)), .inr (4, fs126 σ), .inl (0, 8, .inl (σ.2.2.1 127)), .inl (0, 8, .inl (σ.2.2.1 128)), .inl (0, 8, .inl (σ.2.2.1 129)), .inl (2, 8, .inl (σ.2.2.1 130)), .inl (0, 8, .inl (σ.2.2.1 131)), .inl (0, 8, .inl (σ.2.2.1 132)), .inr (4, fs133 σ), .inl (0, 8, .inl (σ.2.2.1 134)), .inl (0, 8, .inl (σ.2.2.1 135)), .inl (0, 8, .inl (σ.2.2.1 136)), .inl (2, 8, .inl (σ.2.2.1 137)), .inl (0, 8, .inl (σ.2.2.1 138)), .inl (0, 8, .inl (σ.2.2.1 139)), .inr (9, fs140 σ), .inl (0, 20, .inl (σ.2.2.1 141)), .inl (0, 20, .inl (σ.2.2.1 142)), .inl (0, 20, .inl (σ.2.2.1 143)), .inl (0, 20, .inl (σ.2.2.1 144)), .inl (1, 20, .inr (.inl (σ.2.2.2.1 145))), .inl (0, 20, .inl (σ.2.2.1 146)), .inl (0, 20, .inl (σ.2.2.1 147)), .inl (0, 20, .inl (σ.2.2.1 148)), .inl (0, 20, .inl (σ.2.2.1 149)), .inl (0, 160, .inl (σ.2.2.1 150)), .inl (0, 400, .inl (σ.2.2.1 151)), .inl (0, 20, .inl (σ.2.2.1 152)), .inl (0, 20, .inl (σ.2.2.1 153)), .inl (0, 9, .inl (σ.2.2.1 154)), .inl (0, 9, .inl (σ.2.2.1 155)), .inl (0, 8, .inl (σ.2.2.1 156)), .inl (0, 8, .inl (σ.2.2.1 157)), .inl (0, 160, .inl (σ.2.2.1 158)), .inl (0, 5, .inl (σ.2.2.1 159)), .inl (0, 5, .inl (σ.2.2.1 160)), .inl (0, 12, .inl (σ.2.2.1 161)), .inl (0, 12, .inl (σ.2.2.1 162)), .inl (0, 20, .inl (σ.2.2.1 163)), .inl (0, 20, .inl (σ.2.2.1 164)), .inl (0, 20, .inl (σ.2.2.1 165)), .inl (0, 20, .inl (σ.2.2.1 166)), .inl (0, 8, .inl (σ.2.2.1 167)), .inl (0, 20, .inl (σ.2.2.1 168)), .inl (0, 100, .inl (σ.2.2.1 169)), .inl (0, 160, .inl (σ.2.2.1 170)), .inl (0, 48, .inl (σ.2.2.1 171)), .inl (0, 48, .inl (σ.2.2.1 172))]
set_option maxRecDepth 100000 in
theorem c_0 (σ : Sg) : (WW σ)[0]? = some (.inr (8, fs0 σ)) := rfl
set_option maxRecDepth 100000 in
theorem c_1 (σ : Sg) : (WW σ)[1]? = some (.inr (0, fs1 σ)) := rfl
set_option maxRecDepth 100000 in
theorem c_2 (σ : Sg) : (WW σ)[2]? = some (.inl (0, 20, .inl (σ.2.2.1 2))) := rfl
set_option maxRecDepth 100000 in
theorem c_3 (σ : Sg) : (WW σ)[3]? = some (.inl (0, 20, .inl (σ.2.2.1 3))) := rfl
set_option maxRecDepth 100000 in
theorem c_4 (σ : Sg) : (WW σ)[4]? = some (.inl (0, 20, .inl (σ.2.2.1 4))) := rfl
set_option maxRecDepth 100000 in
theorem c_5 (σ : Sg) : (WW σ)[5]? = some (.inl (0, 20, .inl (σ.2.2.1 5))) := rfl
set_option maxRecDepth 100000 in
theorem c_6 (σ : Sg) : (WW σ)[6]? = some (.inl (1, 20, .inr (.inl (σ.2.2.2.1 6)))) := rfl
set_option maxRecDepth 100000 in
theorem c_7 (σ : Sg) : (WW σ)[7]? = some (.inl (0, 20, .inl (σ.2.2.1 7))) := rfl
set_option maxRecDepth 100000 in
theorem c_8 (σ : Sg) : (WW σ)[8]? = some (.inl (0, 20, .inl (σ.2.2.1 8))) := rfl
set_option maxRecDepth 100000 in
theorem c_9 (σ : Sg) : (WW σ)[9]? = some (.inl (0, 20, .inl (σ.2.2.1 9))) := rfl
set_option maxRecDepth 100000 in
theorem c_10 (σ : Sg) : (WW σ)[10]? = some (.inl (1, 20, .inr (.inl (σ.2.2.2.1 10)))) := rfl
set_option maxRecDepth 100000 in
theorem c_11 (σ : Sg) : (WW σ)[11]? = some (.inl (0, 20, .inl (σ.2.2.1 11))) := rfl
set_option maxRecDepth 100000 in
theorem c_12 (σ : Sg) : (WW σ)[12]? = some (.inr (3, fs12 σ)) := rfl
set_option maxRecDepth 100000 in
theorem c_13 (σ : Sg) : (WW σ)[13]? = some (.inl (3, 20, .inr (.inr (.inr (.inr (fun i => if i < 20 then some (14 + i) else none)))))) := rfl
set_option maxRecDepth 100000 in
theorem c_14 (σ : Sg) : (WW σ)[14]? = some (.inl (0, 20, .inl (σ.2.2.1 14))) := rfl
set_option maxRecDepth 100000 in
theorem c_15 (σ : Sg) : (WW σ)[15]? = some (.inl (0, 20, .inl (σ.2.2.1 15))) := rfl
set_option maxRecDepth 100000 in
theorem c_16 (σ : Sg) : (WW σ)[16]? = some (.inl (0, 20, .inl (σ.2.2.1 16))) := rfl
set_option maxRecDepth 100000 in
theorem c_17 (σ : Sg) : (WW σ)[17]? = some (.inl (0, 20, .inl (σ.2.2.1 17))) := rfl
set_option maxRecDepth 100000 in
theorem c_18 (σ : Sg) : (WW σ)[18]? = some (.inl (0, 20, .inl (σ.2.2.1 18))) := rfl
set_option maxRecDepth 100000 in
theorem c_19 (σ : Sg) : (WW σ)[19]? = some (.inl (0, 20, .inl (σ.2.2.1 19))) := rfl
set_option maxRecDepth 100000 in
theorem c_20 (σ : Sg) : (WW σ)[20]? = some (.inl (0, 20, .inl (σ.2.2.1 20))) := rfl
set_option maxRecDepth 100000 in
theorem c_21 (σ : Sg) : (WW σ)[21]? = some (.inl (0, 20, .inl (σ.2.2.1 21))) := rfl
set_option maxRecDepth 100000 in
theorem c_22 (σ : Sg) : (WW σ)[22]? = some (.inl (0, 20, .inl (σ.2.2.1 22))) := rfl
set_option maxRecDepth 100000 in
theorem c_23 (σ : Sg) : (WW σ)[23]? = some (.inl (0, 20, .inl (σ.2.2.1 23))) := rfl
set_option maxRecDepth 100000 in
theorem c_24 (σ : Sg) : (WW σ)[24]? = some (.inl (0, 20, .inl (σ.2.2.1 24))) := rfl
set_option maxRecDepth 100000 in
theorem c_25 (σ : Sg) : (WW σ)[25]? = some (.inl (0, 20, .inl (σ.2.2.1 25))) := rfl
set_option maxRecDepth 100000 in
theorem c_26 (σ : Sg) : (WW σ)[26]? = some (.inl (0, 20, .inl (σ.2.2.1 26))) := rfl
set_option maxRecDepth 100000 in
theorem c_27 (σ : Sg) : (WW σ)[27]? = some (.inl (0, 20, .inl (σ.2.2.1 27))) := rfl
set_option maxRecDepth 100000 in
theorem c_28 (σ : Sg) : (WW σ)[28]? = some (.inl (0, 20, .inl (σ.2.2.1 28))) := rfl
set_option maxRecDepth 100000 in
theorem c_29 (σ : Sg) : (WW σ)[29]? = some (.inl (0, 20, .inl (σ.2.2.1 29))) := rfl
set_option maxRecDepth 100000 in
theorem c_30 (σ : Sg) : (WW σ)[30]? = some (.inl (0, 20, .inl (σ.2.2.1 30))) := rfl
set_option maxRecDepth 100000 in
theorem c_31 (σ : Sg) : (WW σ)[31]? = some (.inl (0, 20, .inl (σ.2.2.1 31))) := rfl
set_option maxRecDepth 100000 in
theorem c_32 (σ : Sg) : (WW σ)[32]? = some (.inl (0, 20, .inl (σ.2.2.1 32))) := rfl
set_option maxRecDepth 100000 in
theorem c_33 (σ : Sg) : (WW σ)[33]? = some (.inl (0, 20, .inl (σ.2.2.1 33))) := rfl
set_option maxRecDepth 100000 in
theorem c_34 (σ : Sg) : (WW σ)[34]? = some (.inl (3, 20, .inr (.inr (.inr (.inr (fun i => if i < 20 then some (35 + i) else none)))))) := rfl
set_option maxRecDepth 100000 in
theorem c_35 (σ : Sg) : (WW σ)[35]? = some (.inl (0, 20, .inl (σ.2.2.1 35))) := rfl
set_option maxRecDepth 100000 in
theorem c_36 (σ : Sg) : (WW σ)[36]? = some (.inl (0, 20, .inl (σ.2.2.1 36))) := rfl
set_option maxRecDepth 100000 in
theorem c_37 (σ : Sg) : (WW σ)[37]? = some (.inl (0, 20, .inl (σ.2.2.1 37))) := rfl
set_option maxRecDepth 100000 in
theorem c_38 (σ : Sg) : (WW σ)[38]? = some (.inl (0, 20, .inl (σ.2.2.1 38))) := rfl
set_option maxRecDepth 100000 in
theorem c_39 (σ : Sg) : (WW σ)[39]? = some (.inl (0, 20, .inl (σ.2.2.1 39))) := rfl
set_option maxRecDepth 100000 in
theorem c_40 (σ : Sg) : (WW σ)[40]? = some (.inl (0, 20, .inl (σ.2.2.1 40))) := rfl
set_option maxRecDepth 100000 in
theorem c_41 (σ : Sg) : (WW σ)[41]? = some (.inl (0, 20, .inl (σ.2.2.1 41))) := rfl
set_option maxRecDepth 100000 in
theorem c_42 (σ : Sg) : (WW σ)[42]? = some (.inl (0, 20, .inl (σ.2.2.1 42))) := rfl
set_option maxRecDepth 100000 in
theorem c_43 (σ : Sg) : (WW σ)[43]? = some (.inl (0, 20, .inl (σ.2.2.1 43))) := rfl
set_option maxRecDepth 100000 in
theorem c_44 (σ : Sg) : (WW σ)[44]? = some (.inl (0, 20, .inl (σ.2.2.1 44))) := rfl
set_option maxRecDepth 100000 in
theorem c_45 (σ : Sg) : (WW σ)[45]? = some (.inl (0, 20, .inl (σ.2.2.1 45))) := rfl
set_option maxRecDepth 100000 in
theorem c_46 (σ : Sg) : (WW σ)[46]? = some (.inl (0, 20, .inl (σ.2.2.1 46))) := rfl
set_option maxRecDepth 100000 in
theorem c_47 (σ : Sg) : (WW σ)[47]? = some (.inl (0, 20, .inl (σ.2.2.1 47))) := rfl
set_option maxRecDepth 100000 in
theorem c_48 (σ : Sg) : (WW σ)[48]? = some (.inl (0, 20, .inl (σ.2.2.1 48))) := rfl
set_option maxRecDepth 100000 in
theorem c_49 (σ : Sg) : (WW σ)[49]? = some (.inl (0, 20, .inl (σ.2.2.1 49))) := rfl
set_option maxRecDepth 100000 in
theorem c_50 (σ : Sg) : (WW σ)[50]? = some (.inl (0, 20, .inl (σ.2.2.1 50))) := rfl
set_option maxRecDepth 100000 in
theorem c_51 (σ : Sg) : (WW σ)[51]? = some (.inl (0, 20, .inl (σ.2.2.1 51))) := rfl
set_option maxRecDepth 100000 in
theorem c_52 (σ : Sg) : (WW σ)[52]? = some (.inl (0, 20, .inl (σ.2.2.1 52))) := rfl
set_option maxRecDepth 100000 in
theorem c_53 (σ : Sg) : (WW σ)[53]? = some (.inl (0, 20, .inl (σ.2.2.1 53))) := rfl
set_option maxRecDepth 100000 in
theorem c_54 (σ : Sg) : (WW σ)[54]? = some (.inl (0, 20, .inl (σ.2.2.1 54))) := rfl
set_option maxRecDepth 100000 in
theorem c_55 (σ : Sg) : (WW σ)[55]? = some (.inl (0, 9, .inl (σ.2.2.1 55))) := rfl
set_option maxRecDepth 100000 in
theorem c_56 (σ : Sg) : (WW σ)[56]? = some (.inr (5, fs56 σ)) := rfl
set_option maxRecDepth 100000 in
theorem c_57 (σ : Sg) : (WW σ)[57]? = some (.inl (2, 100, .inl (σ.2.2.1 57))) := rfl
set_option maxRecDepth 100000 in
theorem c_58 (σ : Sg) : (WW σ)[58]? = some (.inr (1, fs58 σ)) := rfl
set_option maxRecDepth 100000 in
theorem c_59 (σ : Sg) : (WW σ)[59]? = some (.inl (0, 8, .inl (σ.2.2.1 59))) := rfl
set_option maxRecDepth 100000 in
theorem c_60 (σ : Sg) : (WW σ)[60]? = some (.inl (0, 8, .inl (σ.2.2.1 60))) := rfl
set_option maxRecDepth 100000 in
theorem c_61 (σ : Sg) : (WW σ)[61]? = some (.inl (0, 5, .inl (σ.2.2.1 61))) := rfl
set_option maxRecDepth 100000 in
theorem c_62 (σ : Sg) : (WW σ)[62]? = some (.inl (0, 5, .inl (σ.2.2.1 62))) := rfl
set_option maxRecDepth 100000 in
theorem c_63 (σ : Sg) : (WW σ)[63]? = some (.inl (3, 20, .inr (.inr (.inr (.inr (fun i => if i < 20 then some (64 + i) else none)))))) := rfl
set_option maxRecDepth 100000 in
theorem c_64 (σ : Sg) : (WW σ)[64]? = some (.inl (0, 8, .inl (σ.2.2.1 64))) := rfl
set_option maxRecDepth 100000 in
theorem c_65 (σ : Sg) : (WW σ)[65]? = some (.inl (0, 8, .inl (σ.2.2.1 65))) := rfl
set_option maxRecDepth 100000 in
theorem c_66 (σ : Sg) : (WW σ)[66]? = some (.inl (0, 8, .inl (σ.2.2.1 66))) := rfl
set_option maxRecDepth 100000 in
theorem c_67 (σ : Sg) : (WW σ)[67]? = some (.inl (0, 8, .inl (σ.2.2.1 67))) := rfl
set_option maxRecDepth 100000 in
theorem c_68 (σ : Sg) : (WW σ)[68]? = some (.inl (0, 8, .inl (σ.2.2.1 68))) := rfl
set_option maxRecDepth 100000 in
theorem c_69 (σ : Sg) : (WW σ)[69]? = some (.inl (0, 8, .inl (σ.2.2.1 69))) := rfl
set_option maxRecDepth 100000 in
theorem c_70 (σ : Sg) : (WW σ)[70]? = some (.inl (0, 8, .inl (σ.2.2.1 70))) := rfl
set_option maxRecDepth 100000 in
theorem c_71 (σ : Sg) : (WW σ)[71]? = some (.inl (0, 8, .inl (σ.2.2.1 71))) := rfl
set_option maxRecDepth 100000 in
theorem c_72 (σ : Sg) : (WW σ)[72]? = some (.inl (0, 8, .inl (σ.2.2.1 72))) := rfl
set_option maxRecDepth 100000 in
theorem c_73 (σ : Sg) : (WW σ)[73]? = some (.inl (0, 8, .inl (σ.2.2.1 73))) := rfl
set_option maxRecDepth 100000 in
theorem c_74 (σ : Sg) : (WW σ)[74]? = some (.inl (0, 8, .inl (σ.2.2.1 74))) := rfl
set_option maxRecDepth 100000 in
theorem c_75 (σ : Sg) : (WW σ)[75]? = some (.inl (0, 8, .inl (σ.2.2.1 75))) := rfl
set_option maxRecDepth 100000 in
theorem c_76 (σ : Sg) : (WW σ)[76]? = some (.inl (0, 8, .inl (σ.2.2.1 76))) := rfl
set_option maxRecDepth 100000 in
theorem c_77 (σ : Sg) : (WW σ)[77]? = some (.inl (0, 8, .inl (σ.2.2.1 77))) := rfl
set_option maxRecDepth 100000 in
theorem c_78 (σ : Sg) : (WW σ)[78]? = some (.inl (0, 8, .inl (σ.2.2.1 78))) := rfl
set_option maxRecDepth 100000 in
theorem c_79 (σ : Sg) : (WW σ)[79]? = some (.inl (0, 8, .inl (σ.2.2.1 79))) := rfl
set_option maxRecDepth 100000 in
theorem c_80 (σ : Sg) : (WW σ)[80]? = some (.inl (0, 8, .inl (σ.2.2.1 80))) := rfl
set_option maxRecDepth 100000 in
theorem c_81 (σ : Sg) : (WW σ)[81]? = some (.inl (0, 8, .inl (σ.2.2.1 81))) := rfl
set_option maxRecDepth 100000 in
theorem c_82 (σ : Sg) : (WW σ)[82]? = some (.inl (0, 8, .inl (σ.2.2.1 82))) := rfl
set_option maxRecDepth 100000 in
theorem c_83 (σ : Sg) : (WW σ)[83]? = some (.inl (0, 8, .inl (σ.2.2.1 83))) := rfl
set_option maxRecDepth 100000 in
theorem c_84 (σ : Sg) : (WW σ)[84]? = some (.inl (0, 12, .inl (σ.2.2.1 84))) := rfl
set_option maxRecDepth 100000 in
theorem c_85 (σ : Sg) : (WW σ)[85]? = some (.inl (0, 12, .inl (σ.2.2.1 85))) := rfl
set_option maxRecDepth 100000 in
theorem c_86 (σ : Sg) : (WW σ)[86]? = some (.inr (7, fs86 σ)) := rfl
set_option maxRecDepth 100000 in
theorem c_87 (σ : Sg) : (WW σ)[87]? = some (.inl (0, 20, .inl (σ.2.2.1 87))) := rfl
set_option maxRecDepth 100000 in
theorem c_88 (σ : Sg) : (WW σ)[88]? = some (.inl (0, 20, .inl (σ.2.2.1 88))) := rfl
set_option maxRecDepth 100000 in
theorem c_89 (σ : Sg) : (WW σ)[89]? = some (.inr (7, fs89 σ)) := rfl
set_option maxRecDepth 100000 in
theorem c_90 (σ : Sg) : (WW σ)[90]? = some (.inl (0, 20, .inl (σ.2.2.1 90))) := rfl
set_option maxRecDepth 100000 in
theorem c_91 (σ : Sg) : (WW σ)[91]? = some (.inl (0, 20, .inl (σ.2.2.1 91))) := rfl
set_option maxRecDepth 100000 in
theorem c_92 (σ : Sg) : (WW σ)[92]? = some (.inl (0, 20, .inl (σ.2.2.1 92))) := rfl
set_option maxRecDepth 100000 in
theorem c_93 (σ : Sg) : (WW σ)[93]? = some (.inr (2, fs93 σ)) := rfl
set_option maxRecDepth 100000 in
theorem c_94 (σ : Sg) : (WW σ)[94]? = some (.inl (0, 8, .inl (σ.2.2.1 94))) := rfl
set_option maxRecDepth 100000 in
theorem c_95 (σ : Sg) : (WW σ)[95]? = some (.inl (3, 20, .inr (.inr (.inr (.inr (fun i => if i < 20 then some (96 + i) else none)))))) := rfl
set_option maxRecDepth 100000 in
theorem c_96 (σ : Sg) : (WW σ)[96]? = some (.inl (0, 5, .inl (σ.2.2.1 96))) := rfl
set_option maxRecDepth 100000 in
theorem c_97 (σ : Sg) : (WW σ)[97]? = some (.inl (0, 5, .inl (σ.2.2.1 97))) := rfl
set_option maxRecDepth 100000 in
theorem c_98 (σ : Sg) : (WW σ)[98]? = some (.inl (0, 5, .inl (σ.2.2.1 98))) := rfl
set_option maxRecDepth 100000 in
theorem c_99 (σ : Sg) : (WW σ)[99]? = some (.inl (0, 5, .inl (σ.2.2.1 99))) := rfl
set_option maxRecDepth 100000 in
theorem c_100 (σ : Sg) : (WW σ)[100]? = some (.inl (0, 5, .inl (σ.2.2.1 100))) := rfl
set_option maxRecDepth 100000 in
theorem c_101 (σ : Sg) : (WW σ)[101]? = some (.inl (0, 5, .inl (σ.2.2.1 101))) := rfl
set_option maxRecDepth 100000 in
theorem c_102 (σ : Sg) : (WW σ)[102]? = some (.inl (0, 5, .inl (σ.2.2.1 102))) := rfl
set_option maxRecDepth 100000 in
theorem c_103 (σ : Sg) : (WW σ)[103]? = some (.inl (0, 5, .inl (σ.2.2.1 103))) := rfl
set_option maxRecDepth 100000 in
theorem c_104 (σ : Sg) : (WW σ)[104]? = some (.inl (0, 5, .inl (σ.2.2.1 104))) := rfl
set_option maxRecDepth 100000 in
theorem c_105 (σ : Sg) : (WW σ)[105]? = some (.inl (0, 5, .inl (σ.2.2.1 105))) := rfl
set_option maxRecDepth 100000 in
theorem c_106 (σ : Sg) : (WW σ)[106]? = some (.inl (0, 5, .inl (σ.2.2.1 106))) := rfl
set_option maxRecDepth 100000 in
theorem c_107 (σ : Sg) : (WW σ)[107]? = some (.inl (0, 5, .inl (σ.2.2.1 107))) := rfl
set_option maxRecDepth 100000 in
theorem c_108 (σ : Sg) : (WW σ)[108]? = some (.inl (0, 5, .inl (σ.2.2.1 108))) := rfl
set_option maxRecDepth 100000 in
theorem c_109 (σ : Sg) : (WW σ)[109]? = some (.inl (0, 5, .inl (σ.2.2.1 109))) := rfl
set_option maxRecDepth 100000 in
theorem c_110 (σ : Sg) : (WW σ)[110]? = some (.inl (0, 5, .inl (σ.2.2.1 110))) := rfl
set_option maxRecDepth 100000 in
theorem c_111 (σ : Sg) : (WW σ)[111]? = some (.inl (0, 5, .inl (σ.2.2.1 111))) := rfl
set_option maxRecDepth 100000 in
theorem c_112 (σ : Sg) : (WW σ)[112]? = some (.inl (0, 5, .inl (σ.2.2.1 112))) := rfl
set_option maxRecDepth 100000 in
theorem c_113 (σ : Sg) : (WW σ)[113]? = some (.inl (0, 5, .inl (σ.2.2.1 113))) := rfl
set_option maxRecDepth 100000 in
theorem c_114 (σ : Sg) : (WW σ)[114]? = some (.inl (0, 5, .inl (σ.2.2.1 114))) := rfl
set_option maxRecDepth 100000 in
theorem c_115 (σ : Sg) : (WW σ)[115]? = some (.inl (0, 5, .inl (σ.2.2.1 115))) := rfl
set_option maxRecDepth 100000 in
theorem c_116 (σ : Sg) : (WW σ)[116]? = some (.inl (0, 20, .inl (σ.2.2.1 116))) := rfl
set_option maxRecDepth 100000 in
theorem c_117 (σ : Sg) : (WW σ)[117]? = some (.inr (6, fs117 σ)) := rfl
set_option maxRecDepth 100000 in
theorem c_118 (σ : Sg) : (WW σ)[118]? = some (.inl (0, 160, .inl (σ.2.2.1 118))) := rfl
set_option maxRecDepth 100000 in
theorem c_119 (σ : Sg) : (WW σ)[119]? = some (.inr (4, fs119 σ)) := rfl
set_option maxRecDepth 100000 in
theorem c_120 (σ : Sg) : (WW σ)[120]? = some (.inl (0, 8, .inl (σ.2.2.1 120))) := rfl
set_option maxRecDepth 100000 in
theorem c_121 (σ : Sg) : (WW σ)[121]? = some (.inl (0, 8, .inl (σ.2.2.1 121))) := rfl
set_option maxRecDepth 100000 in
theorem c_122 (σ : Sg) : (WW σ)[122]? = some (.inl (0, 8, .inl (σ.2.2.1 122))) := rfl
set_option maxRecDepth 100000 in
theorem c_123 (σ : Sg) : (WW σ)[123]? = some (.inl (2, 8, .inl (σ.2.2.1 123))) := rfl
set_option maxRecDepth 100000 in
theorem c_124 (σ : Sg) : (WW σ)[124]? = some (.inl (0, 8, .inl (σ.2.2.1 124))) := rfl
set_option maxRecDepth 100000 in
theorem c_125 (σ : Sg) : (WW σ)[125]? = some (.inl (0, 8, .inl (σ.2.2.1 125))) := rfl
set_option maxRecDepth 100000 in
theorem c_126 (σ : Sg) : (WW σ)[126]? = some (.inr (4, fs126 σ)) := rfl
set_option maxRecDepth 100000 in
theorem c_127 (σ : Sg) : (WW σ)[127]? = some (.inl (0, 8, .inl (σ.2.2.1 127))) := rfl
set_option maxRecDepth 100000 in
theorem c_128 (σ : Sg) : (WW σ)[128]? = some (.inl (0, 8, .inl (σ.2.2.1 128))) := rfl
set_option maxRecDepth 100000 in
theorem c_129 (σ : Sg) : (WW σ)[129]? = some (.inl (0, 8, .inl (σ.2.2.1 129))) := rfl
set_option maxRecDepth 100000 in
theorem c_130 (σ : Sg) : (WW σ)[130]? = some (.inl (2, 8, .inl (σ.2.2.1 130))) := rfl
set_option maxRecDepth 100000 in
theorem c_131 (σ : Sg) : (WW σ)[131]? = some (.inl (0, 8, .inl (σ.2.2.1 131))) := rfl
set_option maxRecDepth 100000 in
theorem c_132 (σ : Sg) : (WW σ)[132]? = some (.inl (0, 8, .inl (σ.2.2.1 132))) := rfl
set_option maxRecDepth 100000 in
theorem c_133 (σ : Sg) : (WW σ)[133]? = some (.inr (4, fs133 σ)) := rfl
set_option maxRecDepth 100000 in
theorem c_134 (σ : Sg) : (WW σ)[134]? = some (.inl (0, 8, .inl (σ.2.2.1 134))) := rfl
set_option maxRecDepth 100000 in
theorem c_135 (σ : Sg) : (WW σ)[135]? = some (.inl (0, 8, .inl (σ.2.2.1 135))) := rfl
set_option maxRecDepth 100000 in
theorem c_136 (σ : Sg) : (WW σ)[136]? = some (.inl (0, 8, .inl (σ.2.2.1 136))) := rfl
set_option maxRecDepth 100000 in
theorem c_137 (σ : Sg) : (WW σ)[137]? = some (.inl (2, 8, .inl (σ.2.2.1 137))) := rfl
set_option maxRecDepth 100000 in
theorem c_138 (σ : Sg) : (WW σ)[138]? = some (.inl (0, 8, .inl (σ.2.2.1 138))) := rfl
set_option maxRecDepth 100000 in
theorem c_139 (σ : Sg) : (WW σ)[139]? = some (.inl (0, 8, .inl (σ.2.2.1 139))) := rfl
set_option maxRecDepth 100000 in
theorem c_140 (σ : Sg) : (WW σ)[140]? = some (.inr (9, fs140 σ)) := rfl
set_option maxRecDepth 100000 in
theorem c_141 (σ : Sg) : (WW σ)[141]? = some (.inl (0, 20, .inl (σ.2.2.1 141))) := rfl
set_option maxRecDepth 100000 in
theorem c_142 (σ : Sg) : (WW σ)[142]? = some (.inl (0, 20, .inl (σ.2.2.1 142))) := rfl
set_option maxRecDepth 100000 in
theorem c_143 (σ : Sg) : (WW σ)[143]? = some (.inl (0, 20, .inl (σ.2.2.1 143))) := rfl
set_option maxRecDepth 100000 in
theorem c_144 (σ : Sg) : (WW σ)[144]? = some (.inl (0, 20, .inl (σ.2.2.1 144))) := rfl
set_option maxRecDepth 100000 in
theorem c_145 (σ : Sg) : (WW σ)[145]? = some (.inl (1, 20, .inr (.inl (σ.2.2.2.1 145)))) := rfl
set_option maxRecDepth 100000 in
theorem c_146 (σ : Sg) : (WW σ)[146]? = some (.inl (0, 20, .inl (σ.2.2.1 146))) := rfl
set_option maxRecDepth 100000 in
theorem c_147 (σ : Sg) : (WW σ)[147]? = some (.inl (0, 20, .inl (σ.2.2.1 147))) := rfl
set_option maxRecDepth 100000 in
theorem c_148 (σ : Sg) : (WW σ)[148]? = some (.inl (0, 20, .inl (σ.2.2.1 148))) := rfl
set_option maxRecDepth 100000 in
theorem c_149 (σ : Sg) : (WW σ)[149]? = some (.inl (0, 20, .inl (σ.2.2.1 149))) := rfl
set_option maxRecDepth 100000 in
theorem c_150 (σ : Sg) : (WW σ)[150]? = some (.inl (0, 160, .inl (σ.2.2.1 150))) := rfl
set_option maxRecDepth 100000 in
theorem c_151 (σ : Sg) : (WW σ)[151]? = some (.inl (0, 400, .inl (σ.2.2.1 151))) := rfl
set_option maxRecDepth 100000 in
theorem c_152 (σ : Sg) : (WW σ)[152]? = some (.inl (0, 20, .inl (σ.2.2.1 152))) := rfl
set_option maxRecDepth 100000 in
theorem c_153 (σ : Sg) : (WW σ)[153]? = some (.inl (0, 20, .inl (σ.2.2.1 153))) := rfl
set_option maxRecDepth 100000 in
theorem c_154 (σ : Sg) : (WW σ)[154]? = some (.inl (0, 9, .inl (σ.2.2.1 154))) := rfl
set_option maxRecDepth 100000 in
theorem c_155 (σ : Sg) : (WW σ)[155]? = some (.inl (0, 9, .inl (σ.2.2.1 155))) := rfl
set_option maxRecDepth 100000 in
theorem c_156 (σ : Sg) : (WW σ)[156]? = some (.inl (0, 8, .inl (σ.2.2.1 156))) := rfl
set_option maxRecDepth 100000 in
theorem c_157 (σ : Sg) : (WW σ)[157]? = some (.inl (0, 8, .inl (σ.2.2.1 157))) := rfl
set_option maxRecDepth 100000 in
theorem c_158 (σ : Sg) : (WW σ)[158]? = some (.inl (0, 160, .inl (σ.2.2.1 158))) := rfl
set_option maxRecDepth 100000 in
theorem c_159 (σ : Sg) : (WW σ)[159]? = some (.inl (0, 5, .inl (σ.2.2.1 159))) := rfl
set_option maxRecDepth 100000 in
theorem c_160 (σ : Sg) : (WW σ)[160]? = some (.inl (0, 5, .inl (σ.2.2.1 160))) := rfl
set_option maxRecDepth 100000 in
theorem c_161 (σ : Sg) : (WW σ)[161]? = some (.inl (0, 12, .inl (σ.2.2.1 161))) := rfl
set_option maxRecDepth 100000 in
theorem c_162 (σ : Sg) : (WW σ)[162]? = some (.inl (0, 12, .inl (σ.2.2.1 162))) := rfl
set_option maxRecDepth 100000 in
theorem c_163 (σ : Sg) : (WW σ)[163]? = some (.inl (0, 20, .inl (σ.2.2.1 163))) := rfl
set_option maxRecDepth 100000 in
theorem c_164 (σ : Sg) : (WW σ)[164]? = some (.inl (0, 20, .inl (σ.2.2.1 164))) := rfl
set_option maxRecDepth 100000 in
theorem c_165 (σ : Sg) : (WW σ)[165]? = some (.inl (0, 20, .inl (σ.2.2.1 165))) := rfl
set_option maxRecDepth 100000 in
theorem c_166 (σ : Sg) : (WW σ)[166]? = some (.inl (0, 20, .inl (σ.2.2.1 166))) := rfl
set_option maxRecDepth 100000 in
theorem c_167 (σ : Sg) : (WW σ)[167]? = some (.inl (0, 8, .inl (σ.2.2.1 167))) := rfl
set_option maxRecDepth 100000 in
theorem c_168 (σ : Sg) : (WW σ)[168]? = some (.inl (0, 20, .inl (σ.2.2.1 168))) := rfl
set_option maxRecDepth 100000 in
theorem c_169 (σ : Sg) : (WW σ)[169]? = some (.inl (0, 100, .inl (σ.2.2.1 169))) := rfl
set_option maxRecDepth 100000 in
theorem c_170 (σ : Sg) : (WW σ)[170]? = some (.inl (0, 160, .inl (σ.2.2.1 170))) := rfl
set_option maxRecDepth 100000 in
theorem c_171 (σ : Sg) : (WW σ)[171]? = some (.inl (0, 48, .inl (σ.2.2.1 171))) := rfl
set_option maxRecDepth 100000 in
theorem c_172 (σ : Sg) : (WW σ)[172]? = some (.inl (0, 48, .inl (σ.2.2.1 172))) := rfl
set_option maxRecDepth 100000 in
theorem s_0_9 (σ : Sg) (v : Int32) : (WW σ).set 0 (.inr (8, (fs0 σ).set 9 (.int v))) = WW (uI σ 9 v) := rfl
set_option maxRecDepth 100000 in
theorem s_1_10 (σ : Sg) (v : Int32) : (WW σ).set 1 (.inr (0, (fs1 σ).set 10 (.int v))) = WW (uI σ 110 v) := rfl
set_option maxRecDepth 100000 in
theorem s_1_11 (σ : Sg) (v : Int32) : (WW σ).set 1 (.inr (0, (fs1 σ).set 11 (.int v))) = WW (uI σ 111 v) := rfl
set_option maxRecDepth 100000 in
theorem s_1_12 (σ : Sg) (v : Int32) : (WW σ).set 1 (.inr (0, (fs1 σ).set 12 (.int v))) = WW (uI σ 112 v) := rfl
set_option maxRecDepth 100000 in
theorem a_2 (σ : Sg) (f : Nat → Int32) : (WW σ).set 2 (.inl (0, 20, .inl f)) = WW (uA σ 2 f) := rfl
set_option maxRecDepth 100000 in
theorem a_3 (σ : Sg) (f : Nat → Int32) : (WW σ).set 3 (.inl (0, 20, .inl f)) = WW (uA σ 3 f) := rfl
set_option maxRecDepth 100000 in
theorem a_4 (σ : Sg) (f : Nat → Int32) : (WW σ).set 4 (.inl (0, 20, .inl f)) = WW (uA σ 4 f) := rfl
set_option maxRecDepth 100000 in
theorem a_5 (σ : Sg) (f : Nat → Int32) : (WW σ).set 5 (.inl (0, 20, .inl f)) = WW (uA σ 5 f) := rfl
set_option maxRecDepth 100000 in
theorem a_6 (σ : Sg) (f : Nat → Int64) : (WW σ).set 6 (.inl (1, 20, .inr (.inl f))) = WW (uB σ 6 f) := rfl
set_option maxRecDepth 100000 in
theorem a_7 (σ : Sg) (f : Nat → Int32) : (WW σ).set 7 (.inl (0, 20, .inl f)) = WW (uA σ 7 f) := rfl
set_option maxRecDepth 100000 in
theorem a_8 (σ : Sg) (f : Nat → Int32) : (WW σ).set 8 (.inl (0, 20, .inl f)) = WW (uA σ 8 f) := rfl
set_option maxRecDepth 100000 in
theorem a_9 (σ : Sg) (f : Nat → Int32) : (WW σ).set 9 (.inl (0, 20, .inl f)) = WW (uA σ 9 f) := rfl
set_option maxRecDepth 100000 in
theorem a_10 (σ : Sg) (f : Nat → Int64) : (WW σ).set 10 (.inl (1, 20, .inr (.inl f))) = WW (uB σ 10 f) := rfl
set_option maxRecDepth 100000 in
theorem a_11 (σ : Sg) (f : Nat → Int32) : (WW σ).set 11 (.inl (0, 20, .inl f)) = WW (uA σ 11 f) := rfl
set_option maxRecDepth 100000 in
theorem s_12_4 (σ : Sg) (v : Int32) : (WW σ).set 12 (.inr (3, (fs12 σ).set 4 (.int v))) = WW (uI σ 1204 v) := rfl
set_option maxRecDepth 100000 in
theorem a_14 (σ : Sg) (f : Nat → Int32) : (WW σ).set 14 (.inl (0, 20, .inl f)) = WW (uA σ 14 f) := rfl
set_option maxRecDepth 100000 in
theorem a_15 (σ : Sg) (f : Nat → Int32) : (WW σ).set 15 (.inl (0, 20, .inl f)) = WW (uA σ 15 f) := rfl
set_option maxRecDepth 100000 in
theorem a_16 (σ : Sg) (f : Nat → Int32) : (WW σ).set 16 (.inl (0, 20, .inl f)) = WW (uA σ 16 f) := rfl
set_option maxRecDepth 100000 in
theorem a_17 (σ : Sg) (f : Nat → Int32) : (WW σ).set 17 (.inl (0, 20, .inl f)) = WW (uA σ 17 f) := rfl
set_option maxRecDepth 100000 in
theorem a_18 (σ : Sg) (f : Nat → Int32) : (WW σ).set 18 (.inl (0, 20, .inl f)) = WW (uA σ 18 f) := rfl
set_option maxRecDepth 100000 in
theorem a_19 (σ : Sg) (f : Nat → Int32) : (WW σ).set 19 (.inl (0, 20, .inl f)) = WW (uA σ 19 f) := rfl
set_option maxRecDepth 100000 in
theorem a_20 (σ : Sg) (f : Nat → Int32) : (WW σ).set 20 (.inl (0, 20, .inl f)) = WW (uA σ 20 f) := rfl
set_option maxRecDepth 100000 in
theorem a_21 (σ : Sg) (f : Nat → Int32) : (WW σ).set 21 (.inl (0, 20, .inl f)) = WW (uA σ 21 f) := rfl
set_option maxRecDepth 100000 in
theorem a_22 (σ : Sg) (f : Nat → Int32) : (WW σ).set 22 (.inl (0, 20, .inl f)) = WW (uA σ 22 f) := rfl
set_option maxRecDepth 100000 in
theorem a_23 (σ : Sg) (f : Nat → Int32) : (WW σ).set 23 (.inl (0, 20, .inl f)) = WW (uA σ 23 f) := rfl
set_option maxRecDepth 100000 in
theorem a_24 (σ : Sg) (f : Nat → Int32) : (WW σ).set 24 (.inl (0, 20, .inl f)) = WW (uA σ 24 f) := rfl
set_option maxRecDepth 100000 in
theorem a_25 (σ : Sg) (f : Nat → Int32) : (WW σ).set 25 (.inl (0, 20, .inl f)) = WW (uA σ 25 f) := rfl
set_option maxRecDepth 100000 in
theorem a_26 (σ : Sg) (f : Nat → Int32) : (WW σ).set 26 (.inl (0, 20, .inl f)) = WW (uA σ 26 f) := rfl
set_option maxRecDepth 100000 in
theorem a_27 (σ : Sg) (f : Nat → Int32) : (WW σ).set 27 (.inl (0, 20, .inl f)) = WW (uA σ 27 f) := rfl
set_option maxRecDepth 100000 in
theorem a_28 (σ : Sg) (f : Nat → Int32) : (WW σ).set 28 (.inl (0, 20, .inl f)) = WW (uA σ 28 f) := rfl
set_option maxRecDepth 100000 in
theorem a_29 (σ : Sg) (f : Nat → Int32) : (WW σ).set 29 (.inl (0, 20, .inl f)) = WW (uA σ 29 f) := rfl
set_option maxRecDepth 100000 in
theorem a_30 (σ : Sg) (f : Nat → Int32) : (WW σ).set 30 (.inl (0, 20, .inl f)) = WW (uA σ 30 f) := rfl
set_option maxRecDepth 100000 in
theorem a_31 (σ : Sg) (f : Nat → Int32) : (WW σ).set 31 (.inl (0, 20, .inl f)) = WW (uA σ 31 f) := rfl
set_option maxRecDepth 100000 in
theorem a_32 (σ : Sg) (f : Nat → Int32) : (WW σ).set 32 (.inl (0, 20, .inl f)) = WW (uA σ 32 f) := rfl
set_option maxRecDepth 100000 in
theorem a_33 (σ : Sg) (f : Nat → Int32) : (WW σ).set 33 (.inl (0, 20, .inl f)) = WW (uA σ 33 f) := rfl
set_option maxRecDepth 100000 in
theorem a_35 (σ : Sg) (f : Nat → Int32) : (WW σ).set 35 (.inl (0, 20, .inl f)) = WW (uA σ 35 f) := rfl
set_option maxRecDepth 100000 in
theorem a_36 (σ : Sg) (f : Nat → Int32) : (WW σ).set 36 (.inl (0, 20, .inl f)) = WW (uA σ 36 f) := rfl
set_option maxRecDepth 100000 in
theorem a_37 (σ : Sg) (f : Nat → Int32) : (WW σ).set 37 (.inl (0, 20, .inl f)) = WW (uA σ 37 f) := rfl
set_option maxRecDepth 100000 in
theorem a_38 (σ : Sg) (f : Nat → Int32) : (WW σ).set 38 (.inl (0, 20, .inl f)) = WW (uA σ 38 f) := rfl
set_option maxRecDepth 100000 in
theorem a_39 (σ : Sg) (f : Nat → Int32) : (WW σ).set 39 (.inl (0, 20, .inl f)) = WW (uA σ 39 f) := rfl
set_option maxRecDepth 100000 in
theorem a_40 (σ : Sg) (f : Nat → Int32) : (WW σ).set 40 (.inl (0, 20, .inl f)) = WW (uA σ 40 f) := rfl
set_option maxRecDepth 100000 in
theorem a_41 (σ : Sg) (f : Nat → Int32) : (WW σ).set 41 (.inl (0, 20, .inl f)) = WW (uA σ 41 f) := rfl
set_option maxRecDepth 100000 in
theorem a_42 (σ : Sg) (f : Nat → Int32) : (WW σ).set 42 (.inl (0, 20, .inl f)) = WW (uA σ 42 f) := rfl
set_option maxRecDepth 100000 in
theorem a_43 (σ : Sg) (f : Nat → Int32) : (WW σ).set 43 (.inl (0, 20, .inl f)) = WW (uA σ 43 f) := rfl
set_option maxRecDepth 100000 in
theorem a_44 (σ : Sg) (f : Nat → Int32) : (WW σ).set 44 (.inl (0, 20, .inl f)) = WW (uA σ 44 f) := rfl
set_option maxRecDepth 100000 in
theorem a_45 (σ : Sg) (f : Nat → Int32) : (WW σ).set 45 (.inl (0, 20, .inl f)) = WW (uA σ 45 f) := rfl
set_option maxRecDepth 100000 in
theorem a_46 (σ : Sg) (f : Nat → Int32) : (WW σ).set 46 (.inl (0, 20, .inl f)) = WW (uA σ 46 f) := rfl
set_option maxRecDepth 100000 in
theorem a_47 (σ : Sg) (f : Nat → Int32) : (WW σ).set 47 (.inl (0, 20, .inl f)) = WW (uA σ 47 f) := rfl
set_option maxRecDepth 100000 in
theorem a_48 (σ : Sg) (f : Nat → Int32) : (WW σ).set 48 (.inl (0, 20, .inl f)) = WW (uA σ 48 f) := rfl
set_option maxRecDepth 100000 in
theorem a_49 (σ : Sg) (f : Nat → Int32) : (WW σ).set 49 (.inl (0, 20, .inl f)) = WW (uA σ 49 f) := rfl
set_option maxRecDepth 100000 in
theorem a_50 (σ : Sg) (f : Nat → Int32) : (WW σ).set 50 (.inl (0, 20, .inl f)) = WW (uA σ 50 f) := rfl
set_option maxRecDepth 100000 in
theorem a_51 (σ : Sg) (f : Nat → Int32) : (WW σ).set 51 (.inl (0, 20, .inl f)) = WW (uA σ 51 f) := rfl
set_option maxRecDepth 100000 in
theorem a_52 (σ : Sg) (f : Nat → Int32) : (WW σ).set 52 (.inl (0, 20, .inl f)) = WW (uA σ 52 f) := rfl
set_option maxRecDepth 100000 in
theorem a_53 (σ : Sg) (f : Nat → Int32) : (WW σ).set 53 (.inl (0, 20, .inl f)) = WW (uA σ 53 f) := rfl
set_option maxRecDepth 100000 in
theorem a_54 (σ : Sg) (f : Nat → Int32) : (WW σ).set 54 (.inl (0, 20, .inl f)) = WW (uA σ 54 f) := rfl
set_option maxRecDepth 100000 in
theorem a_55 (σ : Sg) (f : Nat → Int32) : (WW σ).set 55 (.inl (0, 9, .inl f)) = WW (uA σ 55 f) := rfl
set_option maxRecDepth 100000 in
theorem s_56_2 (σ : Sg) (v : Int32) : (WW σ).set 56 (.inr (5, (fs56 σ).set 2 (.int v))) = WW (uI σ 5602 v) := rfl
set_option maxRecDepth 100000 in
theorem s_56_3 (σ : Sg) (v : Int32) : (WW σ).set 56 (.inr (5, (fs56 σ).set 3 (.int v))) = WW (uI σ 5603 v) := rfl
set_option maxRecDepth 100000 in
theorem s_56_4 (σ : Sg) (v : Int32) : (WW σ).set 56 (.inr (5, (fs56 σ).set 4 (.int v))) = WW (uI σ 5604 v) := rfl
set_option maxRecDepth 100000 in
theorem a_57 (σ : Sg) (f : Nat → Int32) : (WW σ).set 57 (.inl (2, 100, .inl f)) = WW (uA σ 57 f) := rfl
set_option maxRecDepth 100000 in
theorem s_58_9 (σ : Sg) (v : Int32) : (WW σ).set 58 (.inr (1, (fs58 σ).set 9 (.int v))) = WW (uI σ 5809 v) := rfl
set_option maxRecDepth 100000 in
theorem a_59 (σ : Sg) (f : Nat → Int32) : (WW σ).set 59 (.inl (0, 8, .inl f)) = WW (uA σ 59 f) := rfl
set_option maxRecDepth 100000 in
theorem a_60 (σ : Sg) (f : Nat → Int32) : (WW σ).set 60 (.inl (0, 8, .inl f)) = WW (uA σ 60 f) := rfl
set_option maxRecDepth 100000 in
theorem a_61 (σ : Sg) (f : Nat → Int32) : (WW σ).set 61 (.inl (0, 5, .inl f)) = WW (uA σ 61 f) := rfl
set_option maxRecDepth 100000 in
theorem a_62 (σ : Sg) (f : Nat → Int32) : (WW σ).set 62 (.inl (0, 5, .inl f)) = WW (uA σ 62 f) := rfl
set_option maxRecDepth 100000 in
theorem a_64 (σ : Sg) (f : Nat → Int32) : (WW σ).set 64 (.inl (0, 8, .inl f)) = WW (uA σ 64 f) := rfl
set_option maxRecDepth 100000 in
theorem a_65 (σ : Sg) (f : Nat → Int32) : (WW σ).set 65 (.inl (0, 8, .inl f)) = WW (uA σ 65 f) := rfl
set_option maxRecDepth 100000 in
theorem a_66 (σ : Sg) (f : Nat → Int32) : (WW σ).set 66 (.inl (0, 8, .inl f)) = WW (uA σ 66 f) := rfl
set_option maxRecDepth 100000 in
theorem a_67 (σ : Sg) (f : Nat → Int32) : (WW σ).set 67 (.inl (0, 8, .inl f)) = WW (uA σ 67 f) := rfl
set_option maxRecDepth 100000 in
theorem a_68 (σ : Sg) (f : Nat → Int32) : (WW σ).set 68 (.inl (0, 8, .inl f)) = WW (uA σ 68 f) := rfl
set_option maxRecDepth 100000 in
theorem a_69 (σ : Sg) (f : Nat → Int32) : (WW σ).set 69 (.inl (0, 8, .inl f)) = WW (uA σ 69 f) := rfl
set_option maxRecDepth 100000 in
theorem a_70 (σ : Sg) (f : Nat → Int32) : (WW σ).set 70 (.inl (0, 8, .inl f)) = WW (uA σ 70 f) := rfl
set_option maxRecDepth 100000 in
theorem a_71 (σ : Sg) (f : Nat → Int32) : (WW σ).set 71 (.inl (0, 8, .inl f)) = WW (uA σ 71 f) := rfl
set_option maxRecDepth 100000 in
theorem a_72 (σ : Sg) (f : Nat → Int32) : (WW σ).set 72 (.inl (0, 8, .inl f)) = WW (uA σ 72 f) := rfl
set_option maxRecDepth 100000 in
theorem a_73 (σ : Sg) (f : Nat → Int32) : (WW σ).set 73 (.inl (0, 8, .inl f)) = WW (uA σ 73 f) := rfl
set_option maxRecDepth 100000 in
theorem a_74 (σ : Sg) (f : Nat → Int32) : (WW σ).set 74 (.inl (0, 8, .inl f)) = WW (uA σ 74 f) := rfl
set_option maxRecDepth 100000 in
theorem a_75 (σ : Sg) (f : Nat → Int32) : (WW σ).set 75 (.inl (0, 8, .inl f)) = WW (uA σ 75 f) := rfl
set_option maxRecDepth 100000 in
theorem a_76 (σ : Sg) (f : Nat → Int32) : (WW σ).set 76 (.inl (0, 8, .inl f)) = WW (uA σ 76 f) := rfl
set_option maxRecDepth 100000 in
theorem a_77 (σ : Sg) (f : Nat → Int32) : (WW σ).set 77 (.inl (0, 8, .inl f)) = WW (uA σ 77 f) := rfl
set_option maxRecDepth 100000 in
theorem a_78 (σ : Sg) (f : Nat → Int32) : (WW σ).set 78 (.inl (0, 8, .inl f)) = WW (uA σ 78 f) := rfl
set_option maxRecDepth 100000 in
theorem a_79 (σ : Sg) (f : Nat → Int32) : (WW σ).set 79 (.inl (0, 8, .inl f)) = WW (uA σ 79 f) := rfl
set_option maxRecDepth 100000 in
theorem a_80 (σ : Sg) (f : Nat → Int32) : (WW σ).set 80 (.inl (0, 8, .inl f)) = WW (uA σ 80 f) := rfl
set_option maxRecDepth 100000 in
theorem a_81 (σ : Sg) (f : Nat → Int32) : (WW σ).set 81 (.inl (0, 8, .inl f)) = WW (uA σ 81 f) := rfl
set_option maxRecDepth 100000 in
theorem a_82 (σ : Sg) (f : Nat → Int32) : (WW σ).set 82 (.inl (0, 8, .inl f)) = WW (uA σ 82 f) := rfl
set_option maxRecDepth 100000 in
theorem a_83 (σ : Sg) (f : Nat → Int32) : (WW σ).set 83 (.inl (0, 8, .inl f)) = WW (uA σ 83 f) := rfl
set_option maxRecDepth 100000 in
theorem a_84 (σ : Sg) (f : Nat → Int32) : (WW σ).set 84 (.inl (0, 12, .inl f)) = WW (uA σ 84 f) := rfl
set_option maxRecDepth 100000 in
theorem a_85 (σ : Sg) (f : Nat → Int32) : (WW σ).set 85 (.inl (0, 12, .inl f)) = WW (uA σ 85 f) := rfl
set_option maxRecDepth 100000 in
theorem s_86_2 (σ : Sg) (v : Int32) : (WW σ).set 86 (.inr (7, (fs86 σ).set 2 (.int v))) = WW (uI σ 8602 v) := rfl
set_option maxRecDepth 100000 in
theorem a_87 (σ : Sg) (f : Nat → Int32) : (WW σ).set 87 (.inl (0, 20, .inl f)) = WW (uA σ 87 f) := rfl
set_option maxRecDepth 100000 in
theorem a_88 (σ : Sg) (f : Nat → Int32) : (WW σ).set 88 (.inl (0, 20, .inl f)) = WW (uA σ 88 f) := rfl
set_option maxRecDepth 100000 in
theorem s_89_2 (σ : Sg) (v : Int32) : (WW σ).set 89 (.inr (7, (fs89 σ).set 2 (.int v))) = WW (uI σ 8902 v) := rfl
set_option maxRecDepth 100000 in
theorem a_90 (σ : Sg) (f : Nat → Int32) : (WW σ).set 90 (.inl (0, 20, .inl f)) = WW (uA σ 90 f) := rfl
set_option maxRecDepth 100000 in
theorem a_91 (σ : Sg) (f : Nat → Int32) : (WW σ).set 91 (.inl (0, 20, .inl f)) = WW (uA σ 91 f) := rfl
set_option maxRecDepth 100000 in
theorem a_92 (σ : Sg) (f : Nat → Int32) : (WW σ).set 92 (.inl (0, 20, .inl f)) = WW (uA σ 92 f) := rfl
set_option maxRecDepth 100000 in
theorem s_93_1 (σ : Sg) (v : Int64) : (WW σ).set 93 (.inr (2, (fs93 σ).set 1 (.long v))) = WW (uJ σ 9301 v) := rfl
set_option maxRecDepth 100000 in
theorem a_94 (σ : Sg) (f : Nat → Int32) : (WW σ).set 94 (.inl (0, 8, .inl f)) = WW (uA σ 94 f) := rfl
set_option maxRecDepth 100000 in
theorem a_96 (σ : Sg) (f : Nat → Int32) : (WW σ).set 96 (.inl (0, 5, .inl f)) = WW (uA σ 96 f) := rfl
set_option maxRecDepth 100000 in
theorem a_97 (σ : Sg) (f : Nat → Int32) : (WW σ).set 97 (.inl (0, 5, .inl f)) = WW (uA σ 97 f) := rfl
set_option maxRecDepth 100000 in
theorem a_98 (σ : Sg) (f : Nat → Int32) : (WW σ).set 98 (.inl (0, 5, .inl f)) = WW (uA σ 98 f) := rfl
set_option maxRecDepth 100000 in
theorem a_99 (σ : Sg) (f : Nat → Int32) : (WW σ).set 99 (.inl (0, 5, .inl f)) = WW (uA σ 99 f) := rfl
set_option maxRecDepth 100000 in
theorem a_100 (σ : Sg) (f : Nat → Int32) : (WW σ).set 100 (.inl (0, 5, .inl f)) = WW (uA σ 100 f) := rfl
set_option maxRecDepth 100000 in
theorem a_101 (σ : Sg) (f : Nat → Int32) : (WW σ).set 101 (.inl (0, 5, .inl f)) = WW (uA σ 101 f) := rfl
set_option maxRecDepth 100000 in
theorem a_102 (σ : Sg) (f : Nat → Int32) : (WW σ).set 102 (.inl (0, 5, .inl f)) = WW (uA σ 102 f) := rfl
set_option maxRecDepth 100000 in
theorem a_103 (σ : Sg) (f : Nat → Int32) : (WW σ).set 103 (.inl (0, 5, .inl f)) = WW (uA σ 103 f) := rfl
set_option maxRecDepth 100000 in
theorem a_104 (σ : Sg) (f : Nat → Int32) : (WW σ).set 104 (.inl (0, 5, .inl f)) = WW (uA σ 104 f) := rfl
set_option maxRecDepth 100000 in
theorem a_105 (σ : Sg) (f : Nat → Int32) : (WW σ).set 105 (.inl (0, 5, .inl f)) = WW (uA σ 105 f) := rfl
set_option maxRecDepth 100000 in
theorem a_106 (σ : Sg) (f : Nat → Int32) : (WW σ).set 106 (.inl (0, 5, .inl f)) = WW (uA σ 106 f) := rfl
set_option maxRecDepth 100000 in
theorem a_107 (σ : Sg) (f : Nat → Int32) : (WW σ).set 107 (.inl (0, 5, .inl f)) = WW (uA σ 107 f) := rfl
set_option maxRecDepth 100000 in
theorem a_108 (σ : Sg) (f : Nat → Int32) : (WW σ).set 108 (.inl (0, 5, .inl f)) = WW (uA σ 108 f) := rfl
set_option maxRecDepth 100000 in
theorem a_109 (σ : Sg) (f : Nat → Int32) : (WW σ).set 109 (.inl (0, 5, .inl f)) = WW (uA σ 109 f) := rfl
set_option maxRecDepth 100000 in
theorem a_110 (σ : Sg) (f : Nat → Int32) : (WW σ).set 110 (.inl (0, 5, .inl f)) = WW (uA σ 110 f) := rfl
set_option maxRecDepth 100000 in
theorem a_111 (σ : Sg) (f : Nat → Int32) : (WW σ).set 111 (.inl (0, 5, .inl f)) = WW (uA σ 111 f) := rfl
set_option maxRecDepth 100000 in
theorem a_112 (σ : Sg) (f : Nat → Int32) : (WW σ).set 112 (.inl (0, 5, .inl f)) = WW (uA σ 112 f) := rfl
set_option maxRecDepth 100000 in
theorem a_113 (σ : Sg) (f : Nat → Int32) : (WW σ).set 113 (.inl (0, 5, .inl f)) = WW (uA σ 113 f) := rfl
set_option maxRecDepth 100000 in
theorem a_114 (σ : Sg) (f : Nat → Int32) : (WW σ).set 114 (.inl (0, 5, .inl f)) = WW (uA σ 114 f) := rfl
set_option maxRecDepth 100000 in
theorem a_115 (σ : Sg) (f : Nat → Int32) : (WW σ).set 115 (.inl (0, 5, .inl f)) = WW (uA σ 115 f) := rfl
set_option maxRecDepth 100000 in
theorem a_116 (σ : Sg) (f : Nat → Int32) : (WW σ).set 116 (.inl (0, 20, .inl f)) = WW (uA σ 116 f) := rfl
set_option maxRecDepth 100000 in
theorem s_117_1 (σ : Sg) (v : Int32) : (WW σ).set 117 (.inr (6, (fs117 σ).set 1 (.int v))) = WW (uI σ 11701 v) := rfl
set_option maxRecDepth 100000 in
theorem s_117_2 (σ : Sg) (v : Int32) : (WW σ).set 117 (.inr (6, (fs117 σ).set 2 (.int v))) = WW (uI σ 11702 v) := rfl
set_option maxRecDepth 100000 in
theorem s_117_3 (σ : Sg) (v : Int32) : (WW σ).set 117 (.inr (6, (fs117 σ).set 3 (.int v))) = WW (uI σ 11703 v) := rfl
set_option maxRecDepth 100000 in
theorem s_117_4 (σ : Sg) (v : Int32) : (WW σ).set 117 (.inr (6, (fs117 σ).set 4 (.int v))) = WW (uI σ 11704 v) := rfl
set_option maxRecDepth 100000 in
theorem a_118 (σ : Sg) (f : Nat → Int32) : (WW σ).set 118 (.inl (0, 160, .inl f)) = WW (uA σ 118 f) := rfl
set_option maxRecDepth 100000 in
theorem s_119_6 (σ : Sg) (v : Int32) : (WW σ).set 119 (.inr (4, (fs119 σ).set 6 (.int v))) = WW (uI σ 11906 v) := rfl
set_option maxRecDepth 100000 in
theorem a_120 (σ : Sg) (f : Nat → Int32) : (WW σ).set 120 (.inl (0, 8, .inl f)) = WW (uA σ 120 f) := rfl
set_option maxRecDepth 100000 in
theorem a_121 (σ : Sg) (f : Nat → Int32) : (WW σ).set 121 (.inl (0, 8, .inl f)) = WW (uA σ 121 f) := rfl
set_option maxRecDepth 100000 in
theorem a_122 (σ : Sg) (f : Nat → Int32) : (WW σ).set 122 (.inl (0, 8, .inl f)) = WW (uA σ 122 f) := rfl
set_option maxRecDepth 100000 in
theorem a_123 (σ : Sg) (f : Nat → Int32) : (WW σ).set 123 (.inl (2, 8, .inl f)) = WW (uA σ 123 f) := rfl
set_option maxRecDepth 100000 in
theorem a_124 (σ : Sg) (f : Nat → Int32) : (WW σ).set 124 (.inl (0, 8, .inl f)) = WW (uA σ 124 f) := rfl
set_option maxRecDepth 100000 in
theorem a_125 (σ : Sg) (f : Nat → Int32) : (WW σ).set 125 (.inl (0, 8, .inl f)) = WW (uA σ 125 f) := rfl
set_option maxRecDepth 100000 in
theorem s_126_6 (σ : Sg) (v : Int32) : (WW σ).set 126 (.inr (4, (fs126 σ).set 6 (.int v))) = WW (uI σ 12606 v) := rfl
set_option maxRecDepth 100000 in
theorem a_127 (σ : Sg) (f : Nat → Int32) : (WW σ).set 127 (.inl (0, 8, .inl f)) = WW (uA σ 127 f) := rfl
set_option maxRecDepth 100000 in
theorem a_128 (σ : Sg) (f : Nat → Int32) : (WW σ).set 128 (.inl (0, 8, .inl f)) = WW (uA σ 128 f) := rfl
set_option maxRecDepth 100000 in
theorem a_129 (σ : Sg) (f : Nat → Int32) : (WW σ).set 129 (.inl (0, 8, .inl f)) = WW (uA σ 129 f) := rfl
set_option maxRecDepth 100000 in
theorem a_130 (σ : Sg) (f : Nat → Int32) : (WW σ).set 130 (.inl (2, 8, .inl f)) = WW (uA σ 130 f) := rfl
set_option maxRecDepth 100000 in
theorem a_131 (σ : Sg) (f : Nat → Int32) : (WW σ).set 131 (.inl (0, 8, .inl f)) = WW (uA σ 131 f) := rfl
set_option maxRecDepth 100000 in
theorem a_132 (σ : Sg) (f : Nat → Int32) : (WW σ).set 132 (.inl (0, 8, .inl f)) = WW (uA σ 132 f) := rfl
set_option maxRecDepth 100000 in
theorem s_133_6 (σ : Sg) (v : Int32) : (WW σ).set 133 (.inr (4, (fs133 σ).set 6 (.int v))) = WW (uI σ 13306 v) := rfl
set_option maxRecDepth 100000 in
theorem a_134 (σ : Sg) (f : Nat → Int32) : (WW σ).set 134 (.inl (0, 8, .inl f)) = WW (uA σ 134 f) := rfl
set_option maxRecDepth 100000 in
theorem a_135 (σ : Sg) (f : Nat → Int32) : (WW σ).set 135 (.inl (0, 8, .inl f)) = WW (uA σ 135 f) := rfl
set_option maxRecDepth 100000 in
theorem a_136 (σ : Sg) (f : Nat → Int32) : (WW σ).set 136 (.inl (0, 8, .inl f)) = WW (uA σ 136 f) := rfl
set_option maxRecDepth 100000 in
theorem a_137 (σ : Sg) (f : Nat → Int32) : (WW σ).set 137 (.inl (2, 8, .inl f)) = WW (uA σ 137 f) := rfl
set_option maxRecDepth 100000 in
theorem a_138 (σ : Sg) (f : Nat → Int32) : (WW σ).set 138 (.inl (0, 8, .inl f)) = WW (uA σ 138 f) := rfl
set_option maxRecDepth 100000 in
theorem a_139 (σ : Sg) (f : Nat → Int32) : (WW σ).set 139 (.inl (0, 8, .inl f)) = WW (uA σ 139 f) := rfl
set_option maxRecDepth 100000 in
theorem s_140_0 (σ : Sg) (v : Int32) : (WW σ).set 140 (.inr (9, (fs140 σ).set 0 (.int v))) = WW (uI σ 14000 v) := rfl
set_option maxRecDepth 100000 in
theorem s_140_11 (σ : Sg) (v : Int32) : (WW σ).set 140 (.inr (9, (fs140 σ).set 11 (.int v))) = WW (uI σ 14011 v) := rfl
set_option maxRecDepth 100000 in
theorem s_140_12 (σ : Sg) (v : Int32) : (WW σ).set 140 (.inr (9, (fs140 σ).set 12 (.int v))) = WW (uI σ 14012 v) := rfl
set_option maxRecDepth 100000 in
theorem s_140_13 (σ : Sg) (v : Int32) : (WW σ).set 140 (.inr (9, (fs140 σ).set 13 (.int v))) = WW (uI σ 14013 v) := rfl
set_option maxRecDepth 100000 in
theorem s_140_14 (σ : Sg) (v : Int32) : (WW σ).set 140 (.inr (9, (fs140 σ).set 14 (.int v))) = WW (uI σ 14014 v) := rfl
set_option maxRecDepth 100000 in
theorem s_140_25 (σ : Sg) (v : Int32) : (WW σ).set 140 (.inr (9, (fs140 σ).set 25 (.int v))) = WW (uI σ 14025 v) := rfl
set_option maxRecDepth 100000 in
theorem s_140_32 (σ : Sg) (v : Int32) : (WW σ).set 140 (.inr (9, (fs140 σ).set 32 (.int v))) = WW (uI σ 14032 v) := rfl
set_option maxRecDepth 100000 in
theorem s_140_34 (σ : Sg) (v : Int64) : (WW σ).set 140 (.inr (9, (fs140 σ).set 34 (.long v))) = WW (uJ σ 14034 v) := rfl
set_option maxRecDepth 100000 in
theorem s_140_37 (σ : Sg) (v : Int32) : (WW σ).set 140 (.inr (9, (fs140 σ).set 37 (.int v))) = WW (uI σ 14037 v) := rfl
set_option maxRecDepth 100000 in
theorem s_140_39 (σ : Sg) (v : Int32) : (WW σ).set 140 (.inr (9, (fs140 σ).set 39 (.int v))) = WW (uI σ 14039 v) := rfl
set_option maxRecDepth 100000 in
theorem s_140_40 (σ : Sg) (v : Int32) : (WW σ).set 140 (.inr (9, (fs140 σ).set 40 (.int v))) = WW (uI σ 14040 v) := rfl
set_option maxRecDepth 100000 in
theorem s_140_41 (σ : Sg) (v : Int64) : (WW σ).set 140 (.inr (9, (fs140 σ).set 41 (.long v))) = WW (uJ σ 14041 v) := rfl
set_option maxRecDepth 100000 in
theorem s_140_42 (σ : Sg) (v : Int32) : (WW σ).set 140 (.inr (9, (fs140 σ).set 42 (.int v))) = WW (uI σ 14042 v) := rfl
set_option maxRecDepth 100000 in
theorem s_140_43 (σ : Sg) (v : Int32) : (WW σ).set 140 (.inr (9, (fs140 σ).set 43 (.int v))) = WW (uI σ 14043 v) := rfl
set_option maxRecDepth 100000 in
theorem s_140_44 (σ : Sg) (v : Int32) : (WW σ).set 140 (.inr (9, (fs140 σ).set 44 (.int v))) = WW (uI σ 14044 v) := rfl
set_option maxRecDepth 100000 in
theorem s_140_45 (σ : Sg) (v : Int32) : (WW σ).set 140 (.inr (9, (fs140 σ).set 45 (.int v))) = WW (uI σ 14045 v) := rfl
set_option maxRecDepth 100000 in
theorem s_140_47 (σ : Sg) (v : Int32) : (WW σ).set 140 (.inr (9, (fs140 σ).set 47 (.int v))) = WW (uI σ 14047 v) := rfl
set_option maxRecDepth 100000 in
theorem a_141 (σ : Sg) (f : Nat → Int32) : (WW σ).set 141 (.inl (0, 20, .inl f)) = WW (uA σ 141 f) := rfl
set_option maxRecDepth 100000 in
theorem a_142 (σ : Sg) (f : Nat → Int32) : (WW σ).set 142 (.inl (0, 20, .inl f)) = WW (uA σ 142 f) := rfl
set_option maxRecDepth 100000 in
theorem a_143 (σ : Sg) (f : Nat → Int32) : (WW σ).set 143 (.inl (0, 20, .inl f)) = WW (uA σ 143 f) := rfl
set_option maxRecDepth 100000 in
theorem a_144 (σ : Sg) (f : Nat → Int32) : (WW σ).set 144 (.inl (0, 20, .inl f)) = WW (uA σ 144 f) := rfl
set_option maxRecDepth 100000 in
theorem a_145 (σ : Sg) (f : Nat → Int64) : (WW σ).set 145 (.inl (1, 20, .inr (.inl f))) = WW (uB σ 145 f) := rfl
set_option maxRecDepth 100000 in
theorem a_146 (σ : Sg) (f : Nat → Int32) : (WW σ).set 146 (.inl (0, 20, .inl f)) = WW (uA σ 146 f) := rfl
set_option maxRecDepth 100000 in
theorem a_147 (σ : Sg) (f : Nat → Int32) : (WW σ).set 147 (.inl (0, 20, .inl f)) = WW (uA σ 147 f) := rfl
set_option maxRecDepth 100000 in
theorem a_148 (σ : Sg) (f : Nat → Int32) : (WW σ).set 148 (.inl (0, 20, .inl f)) = WW (uA σ 148 f) := rfl
set_option maxRecDepth 100000 in
theorem a_149 (σ : Sg) (f : Nat → Int32) : (WW σ).set 149 (.inl (0, 20, .inl f)) = WW (uA σ 149 f) := rfl
set_option maxRecDepth 100000 in
theorem a_150 (σ : Sg) (f : Nat → Int32) : (WW σ).set 150 (.inl (0, 160, .inl f)) = WW (uA σ 150 f) := rfl
set_option maxRecDepth 100000 in
theorem a_151 (σ : Sg) (f : Nat → Int32) : (WW σ).set 151 (.inl (0, 400, .inl f)) = WW (uA σ 151 f) := rfl
set_option maxRecDepth 100000 in
theorem a_152 (σ : Sg) (f : Nat → Int32) : (WW σ).set 152 (.inl (0, 20, .inl f)) = WW (uA σ 152 f) := rfl
set_option maxRecDepth 100000 in
theorem a_153 (σ : Sg) (f : Nat → Int32) : (WW σ).set 153 (.inl (0, 20, .inl f)) = WW (uA σ 153 f) := rfl
set_option maxRecDepth 100000 in
theorem a_154 (σ : Sg) (f : Nat → Int32) : (WW σ).set 154 (.inl (0, 9, .inl f)) = WW (uA σ 154 f) := rfl
set_option maxRecDepth 100000 in
theorem a_155 (σ : Sg) (f : Nat → Int32) : (WW σ).set 155 (.inl (0, 9, .inl f)) = WW (uA σ 155 f) := rfl
set_option maxRecDepth 100000 in
theorem a_156 (σ : Sg) (f : Nat → Int32) : (WW σ).set 156 (.inl (0, 8, .inl f)) = WW (uA σ 156 f) := rfl
set_option maxRecDepth 100000 in
theorem a_157 (σ : Sg) (f : Nat → Int32) : (WW σ).set 157 (.inl (0, 8, .inl f)) = WW (uA σ 157 f) := rfl
set_option maxRecDepth 100000 in
theorem a_158 (σ : Sg) (f : Nat → Int32) : (WW σ).set 158 (.inl (0, 160, .inl f)) = WW (uA σ 158 f) := rfl
set_option maxRecDepth 100000 in
theorem a_159 (σ : Sg) (f : Nat → Int32) : (WW σ).set 159 (.inl (0, 5, .inl f)) = WW (uA σ 159 f) := rfl
set_option maxRecDepth 100000 in
theorem a_160 (σ : Sg) (f : Nat → Int32) : (WW σ).set 160 (.inl (0, 5, .inl f)) = WW (uA σ 160 f) := rfl
set_option maxRecDepth 100000 in
theorem a_161 (σ : Sg) (f : Nat → Int32) : (WW σ).set 161 (.inl (0, 12, .inl f)) = WW (uA σ 161 f) := rfl
set_option maxRecDepth 100000 in
theorem a_162 (σ : Sg) (f : Nat → Int32) : (WW σ).set 162 (.inl (0, 12, .inl f)) = WW (uA σ 162 f) := rfl
set_option maxRecDepth 100000 in
theorem a_163 (σ : Sg) (f : Nat → Int32) : (WW σ).set 163 (.inl (0, 20, .inl f)) = WW (uA σ 163 f) := rfl
set_option maxRecDepth 100000 in
theorem a_164 (σ : Sg) (f : Nat → Int32) : (WW σ).set 164 (.inl (0, 20, .inl f)) = WW (uA σ 164 f) := rfl
set_option maxRecDepth 100000 in
theorem a_165 (σ : Sg) (f : Nat → Int32) : (WW σ).set 165 (.inl (0, 20, .inl f)) = WW (uA σ 165 f) := rfl
set_option maxRecDepth 100000 in
theorem a_166 (σ : Sg) (f : Nat → Int32) : (WW σ).set 166 (.inl (0, 20, .inl f)) = WW (uA σ 166 f) := rfl
set_option maxRecDepth 100000 in
theorem a_167 (σ : Sg) (f : Nat → Int32) : (WW σ).set 167 (.inl (0, 8, .inl f)) = WW (uA σ 167 f) := rfl
set_option maxRecDepth 100000 in
theorem a_168 (σ : Sg) (f : Nat → Int32) : (WW σ).set 168 (.inl (0, 20, .inl f)) = WW (uA σ 168 f) := rfl
set_option maxRecDepth 100000 in
theorem a_169 (σ : Sg) (f : Nat → Int32) : (WW σ).set 169 (.inl (0, 100, .inl f)) = WW (uA σ 169 f) := rfl
set_option maxRecDepth 100000 in
theorem a_170 (σ : Sg) (f : Nat → Int32) : (WW σ).set 170 (.inl (0, 160, .inl f)) = WW (uA σ 170 f) := rfl
set_option maxRecDepth 100000 in
theorem a_171 (σ : Sg) (f : Nat → Int32) : (WW σ).set 171 (.inl (0, 48, .inl f)) = WW (uA σ 171 f) := rfl
set_option maxRecDepth 100000 in
theorem a_172 (σ : Sg) (f : Nat → Int32) : (WW σ).set 172 (.inl (0, 48, .inl f)) = WW (uA σ 172 f) := rfl
set_option maxRecDepth 100000 in
theorem s_0_7 (σ : Sg) (v : Nat) : (WW σ).set 0 (.inr (8, (fs0 σ).set 7 (.ref v))) = WW (uN σ v σ.2.2.2.2.2) := rfl
set_option maxRecDepth 100000 in
theorem s_0_8 (σ : Sg) (v : Nat) : (WW σ).set 0 (.inr (8, (fs0 σ).set 8 (.ref v))) = WW (uN σ σ.2.2.2.2.1 v) := rfl
set_option maxRecDepth 100000 in
theorem r_13 (σ : Sg) : ∀ (i : Nat), i < 20 → (WW σ)[14 + i]? = some (.inl (0, 20, .inl (σ.2.2.1 (14 + i))))
  | 0, _ => rfl
  | 1, _ => rfl
  | 2, _ => rfl
  | 3, _ => rfl
  | 4, _ => rfl
  | 5, _ => rfl
  | 6, _ => rfl
  | 7, _ => rfl
  | 8, _ => rfl
  | 9, _ => rfl
  | 10, _ => rfl
  | 11, _ => rfl
  | 12, _ => rfl
  | 13, _ => rfl
  | 14, _ => rfl
  | 15, _ => rfl
  | 16, _ => rfl
  | 17, _ => rfl
  | 18, _ => rfl
  | 19, _ => rfl
  | i + 20, h => absurd h (by omega)
set_option maxRecDepth 100000 in
theorem ra_13 (σ : Sg) (f : Nat → Int32) : ∀ (i : Nat), i < 20 → (WW σ).set (14 + i) (.inl (0, 20, .inl f)) = WW (uA σ (14 + i) f)
  | 0, _ => rfl
  | 1, _ => rfl
  | 2, _ => rfl
  | 3, _ => rfl
  | 4, _ => rfl
  | 5, _ => rfl
  | 6, _ => rfl
  | 7, _ => rfl
  | 8, _ => rfl
  | 9, _ => rfl
  | 10, _ => rfl
  | 11, _ => rfl
  | 12, _ => rfl
  | 13, _ => rfl
  | 14, _ => rfl
  | 15, _ => rfl
  | 16, _ => rfl
  | 17, _ => rfl
  | 18, _ => rfl
  | 19, _ => rfl
  | i + 20, h => absurd h (by omega)
set_option maxRecDepth 100000 in
theorem r_34 (σ : Sg) : ∀ (i : Nat), i < 20 → (WW σ)[35 + i]? = some (.inl (0, 20, .inl (σ.2.2.1 (35 + i))))
  | 0, _ => rfl
  | 1, _ => rfl
  | 2, _ => rfl
  | 3, _ => rfl
  | 4, _ => rfl
  | 5, _ => rfl
  | 6, _ => rfl
  | 7, _ => rfl
  | 8, _ => rfl
  | 9, _ => rfl
  | 10, _ => rfl
  | 11, _ => rfl
  | 12, _ => rfl
  | 13, _ => rfl
  | 14, _ => rfl
  | 15, _ => rfl
  | 16, _ => rfl
  | 17, _ => rfl
  | 18, _ => rfl
  | 19, _ => rfl
  | i + 20, h => absurd h (by omega)
set_option maxRecDepth 100000 in
theorem ra_34 (σ : Sg) (f : Nat → Int32) : ∀ (i : Nat), i < 20 → (WW σ).set (35 + i) (.inl (0, 20, .inl f)) = WW (uA σ (35 + i) f)
  | 0, _ => rfl
  | 1, _ => rfl
  | 2, _ => rfl
  | 3, _ => rfl
  | 4, _ => rfl
  | 5, _ => rfl
  | 6, _ => rfl
  | 7, _ => rfl
  | 8, _ => rfl
  | 9, _ => rfl
  | 10, _ => rfl
  | 11, _ => rfl
  | 12, _ => rfl
  | 13, _ => rfl
  | 14, _ => rfl
  | 15, _ => rfl
  | 16, _ => rfl
  | 17, _ => rfl
  | 18, _ => rfl
  | 19, _ => rfl
  | i + 20, h => absurd h (by omega)
set_option maxRecDepth 100000 in
theorem r_63 (σ : Sg) : ∀ (i : Nat), i < 20 → (WW σ)[64 + i]? = some (.inl (0, 8, .inl (σ.2.2.1 (64 + i))))
  | 0, _ => rfl
  | 1, _ => rfl
  | 2, _ => rfl
  | 3, _ => rfl
  | 4, _ => rfl
  | 5, _ => rfl
  | 6, _ => rfl
  | 7, _ => rfl
  | 8, _ => rfl
  | 9, _ => rfl
  | 10, _ => rfl
  | 11, _ => rfl
  | 12, _ => rfl
  | 13, _ => rfl
  | 14, _ => rfl
  | 15, _ => rfl
  | 16, _ => rfl
  | 17, _ => rfl
  | 18, _ => rfl
  | 19, _ => rfl
  | i + 20, h => absurd h (by omega)
set_option maxRecDepth 100000 in
theorem ra_63 (σ : Sg) (f : Nat → Int32) : ∀ (i : Nat), i < 20 → (WW σ).set (64 + i) (.inl (0, 8, .inl f)) = WW (uA σ (64 + i) f)
  | 0, _ => rfl
  | 1, _ => rfl
  | 2, _ => rfl
  | 3, _ => rfl
  | 4, _ => rfl
  | 5, _ => rfl
  | 6, _ => rfl
  | 7, _ => rfl
  | 8, _ => rfl
  | 9, _ => rfl
  | 10, _ => rfl
  | 11, _ => rfl
  | 12, _ => rfl
  | 13, _ => rfl
  | 14, _ => rfl
  | 15, _ => rfl
  | 16, _ => rfl
  | 17, _ => rfl
  | 18, _ => rfl
  | 19, _ => rfl
  | i + 20, h => absurd h (by omega)
set_option maxRecDepth 100000 in
theorem r_95 (σ : Sg) : ∀ (i : Nat), i < 20 → (WW σ)[96 + i]? = some (.inl (0, 5, .inl (σ.2.2.1 (96 + i))))
  | 0, _ => rfl
  | 1, _ => rfl
  | 2, _ => rfl
  | 3, _ => rfl
  | 4, _ => rfl
  | 5, _ => rfl
  | 6, _ => rfl
  | 7, _ => rfl
  | 8, _ => rfl
  | 9, _ => rfl
  | 10, _ => rfl
  | 11, _ => rfl
  | 12, _ => rfl
  | 13, _ => rfl
  | 14, _ => rfl
  | 15, _ => rfl
  | 16, _ => rfl
  | 17, _ => rfl
  | 18, _ => rfl
  | 19, _ => rfl
  | i + 20, h => absurd h (by omega)
set_option maxRecDepth 100000 in
theorem ra_95 (σ : Sg) (f : Nat → Int32) : ∀ (i : Nat), i < 20 → (WW σ).set (96 + i) (.inl (0, 5, .inl f)) = WW (uA σ (96 + i) f)
  | 0, _ => rfl
  | 1, _ => rfl
  | 2, _ => rfl
  | 3, _ => rfl
  | 4, _ => rfl
  | 5, _ => rfl
  | 6, _ => rfl
  | 7, _ => rfl
  | 8, _ => rfl
  | 9, _ => rfl
  | 10, _ => rfl
  | 11, _ => rfl
  | 12, _ => rfl
  | 13, _ => rfl
  | 14, _ => rfl
  | 15, _ => rfl
  | 16, _ => rfl
  | 17, _ => rfl
  | 18, _ => rfl
  | 19, _ => rfl
  | i + 20, h => absurd h (by omega)
def I0 : Nat → Int32 := fun k => if k = 9 then 100 else if k = 112 then 999 else if k = 1204 then 2 else if k = 14012 then 2 else if k = 14013 then 999 else if k = 14014 then 100 else 0
def A0 : Nat → Nat → Int32 := fun k j => if k = 60 then (if j < 8 then 20000 else 0) else if k = 62 then (if j < 5 then 20000 else 0) else if k = 64 then (if j < 8 then 2 else 0) else if k = 65 then (if j < 8 then 2 else 0) else if k = 66 then (if j < 8 then 2 else 0) else if k = 67 then (if j < 8 then 2 else 0) else if k = 68 then (if j < 8 then 2 else 0) else if k = 69 then (if j < 8 then 2 else 0) else if k = 70 then (if j < 8 then 2 else 0) else if k = 71 then (if j < 8 then 2 else 0) else if k = 72 then (if j < 8 then 2 else 0) else if k = 73 then (if j < 8 then 2 else 0) else if k = 74 then (if j < 8 then 2 else 0) else if k = 75 then (if j < 8 then 2 else 0) else if k = 76 then (if j < 8 then 2 else 0) else if k = 77 then (if j < 8 then 2 else 0) else if k = 78 then (if j < 8 then 2 else 0) else if k = 79 then (if j < 8 then 2 else 0) else if k = 80 then (if j < 8 then 2 else 0) else if k = 81 then (if j < 8 then 2 else 0) else if k = 82 then (if j < 8 then 2 else 0) else if k = 83 then (if j < 8 then 2 else 0) else if k = 94 then (if j < 8 then 64 else 0) else if k = 157 then (if j < 8 then 20000 else 0) else if k = 160 then (if j < 5 then 20000 else 0) else if k = 167 then (if j < 8 then 64 else 0) else 0
def σ0 : Sg := (I0, fun _ => 0, A0, fun _ _ => 0, 126, 133)
end
section
/-! stores and steps of positional locals -/
section STORES
variable {G : vG} {l : Launch} {y : MethodName} {cc : ByteArray} {nL : Nat} {ret : Option FieldType} {d mc ms : Nat} {Q : Option Value → VW → Prop} {pc : Nat} {lv : List (Option Value)} {st : List Value} {w : VW} {k n : Nat}
set_option maxRecDepth 100000 in
theorem inc_10_5_1_i {o0 o1 o2 o3 o6 o7 o8 o9 : Option Value} {pv : Int32} {x : Int32} (hdg : decode cc pc = .ok (.iinc 5 1, 3)) (kk : R G l y cc 10 ret d mc ms Q (pc + 3) [o0, o1, o2, o3, (some (.int pv)), (some (.int (x + 1))), o6, o7, o8, o9] st w k n) : R G l y cc 10 ret d mc ms Q pc [o0, o1, o2, o3, (some (.int pv)), (some (.int x)), o6, o7, o8, o9] st w k n := by
  intro p e Rm s m args below meth c Qt C hret H locs ls hH hS hl
  have hm : ((5 : Nat), Value.int x) ∈ asL G [o0, o1, o2, o3, (some (.int pv)), (some (.int x)), o6, o7, o8, o9] := asL_mem (v := .int x) rfl
  obtain ⟨kq, hkq⟩ := List.getElem?_of_mem hm
  refine lv_iinc (v := x + 1) C.1 C.2.1 hdg (hasL_as hl) hkq (by rfl) (by decide) rfl (fun ls' h' => kk p e Rm s m args below meth c Qt C hret H locs ls' hH hS (hasL_set1 (x := .int (x + 1)) h' ?_))
  intro j v hj
  match j, hj with
    | 0, hj => exact Or.inr ⟨by decide, hj, fun h => absurd h (by decide)⟩
    | 1, hj => exact Or.inr ⟨by decide, hj, fun h => absurd h (by decide)⟩
    | 2, hj => exact Or.inr ⟨by decide, hj, fun h => absurd h (by decide)⟩
    | 3, hj => exact Or.inr ⟨by decide, hj, fun h => absurd h (by decide)⟩
    | 4, hj => exact Or.inr ⟨by decide, hj, fun _ => by cases hj; simp [Value.category]⟩
    | 5, hj => exact Or.inl ⟨rfl, (Option.some.inj (Option.some.inj hj)).symm⟩
    | 6, hj => exact Or.inr ⟨by decide, hj, fun h => absurd h (by decide)⟩
    | 7, hj => exact Or.inr ⟨by decide, hj, fun h => absurd h (by decide)⟩
    | 8, hj => exact Or.inr ⟨by decide, hj, fun h => absurd h (by decide)⟩
    | 9, hj => exact Or.inr ⟨by decide, hj, fun h => absurd h (by decide)⟩
    | q + 10, hj => simp at hj
set_option maxRecDepth 100000 in
theorem inc_10_6_1_i {o0 o1 o2 o3 o4 o7 o8 o9 : Option Value} {pv : Int32} {x : Int32} (hdg : decode cc pc = .ok (.iinc 6 1, 3)) (kk : R G l y cc 10 ret d mc ms Q (pc + 3) [o0, o1, o2, o3, o4, (some (.int pv)), (some (.int (x + 1))), o7, o8, o9] st w k n) : R G l y cc 10 ret d mc ms Q pc [o0, o1, o2, o3, o4, (some (.int pv)), (some (.int x)), o7, o8, o9] st w k n := by
  intro p e Rm s m args below meth c Qt C hret H locs ls hH hS hl
  have hm : ((6 : Nat), Value.int x) ∈ asL G [o0, o1, o2, o3, o4, (some (.int pv)), (some (.int x)), o7, o8, o9] := asL_mem (v := .int x) rfl
  obtain ⟨kq, hkq⟩ := List.getElem?_of_mem hm
  refine lv_iinc (v := x + 1) C.1 C.2.1 hdg (hasL_as hl) hkq (by rfl) (by decide) rfl (fun ls' h' => kk p e Rm s m args below meth c Qt C hret H locs ls' hH hS (hasL_set1 (x := .int (x + 1)) h' ?_))
  intro j v hj
  match j, hj with
    | 0, hj => exact Or.inr ⟨by decide, hj, fun h => absurd h (by decide)⟩
    | 1, hj => exact Or.inr ⟨by decide, hj, fun h => absurd h (by decide)⟩
    | 2, hj => exact Or.inr ⟨by decide, hj, fun h => absurd h (by decide)⟩
    | 3, hj => exact Or.inr ⟨by decide, hj, fun h => absurd h (by decide)⟩
    | 4, hj => exact Or.inr ⟨by decide, hj, fun h => absurd h (by decide)⟩
    | 5, hj => exact Or.inr ⟨by decide, hj, fun _ => by cases hj; simp [Value.category]⟩
    | 6, hj => exact Or.inl ⟨rfl, (Option.some.inj (Option.some.inj hj)).symm⟩
    | 7, hj => exact Or.inr ⟨by decide, hj, fun h => absurd h (by decide)⟩
    | 8, hj => exact Or.inr ⟨by decide, hj, fun h => absurd h (by decide)⟩
    | 9, hj => exact Or.inr ⟨by decide, hj, fun h => absurd h (by decide)⟩
    | q + 10, hj => simp at hj
set_option maxRecDepth 100000 in
theorem inc_10_7_1_i {o0 o1 o2 o3 o4 o5 o8 o9 : Option Value} {pv : Int32} {x : Int32} (hdg : decode cc pc = .ok (.iinc 7 1, 3)) (kk : R G l y cc 10 ret d mc ms Q (pc + 3) [o0, o1, o2, o3, o4, o5, (some (.int pv)), (some (.int (x + 1))), o8, o9] st w k n) : R G l y cc 10 ret d mc ms Q pc [o0, o1, o2, o3, o4, o5, (some (.int pv)), (some (.int x)), o8, o9] st w k n := by
  intro p e Rm s m args below meth c Qt C hret H locs ls hH hS hl
  have hm : ((7 : Nat), Value.int x) ∈ asL G [o0, o1, o2, o3, o4, o5, (some (.int pv)), (some (.int x)), o8, o9] := asL_mem (v := .int x) rfl
  obtain ⟨kq, hkq⟩ := List.getElem?_of_mem hm
  refine lv_iinc (v := x + 1) C.1 C.2.1 hdg (hasL_as hl) hkq (by rfl) (by decide) rfl (fun ls' h' => kk p e Rm s m args below meth c Qt C hret H locs ls' hH hS (hasL_set1 (x := .int (x + 1)) h' ?_))
  intro j v hj
  match j, hj with
    | 0, hj => exact Or.inr ⟨by decide, hj, fun h => absurd h (by decide)⟩
    | 1, hj => exact Or.inr ⟨by decide, hj, fun h => absurd h (by decide)⟩
    | 2, hj => exact Or.inr ⟨by decide, hj, fun h => absurd h (by decide)⟩
    | 3, hj => exact Or.inr ⟨by decide, hj, fun h => absurd h (by decide)⟩
    | 4, hj => exact Or.inr ⟨by decide, hj, fun h => absurd h (by decide)⟩
    | 5, hj => exact Or.inr ⟨by decide, hj, fun h => absurd h (by decide)⟩
    | 6, hj => exact Or.inr ⟨by decide, hj, fun _ => by cases hj; simp [Value.category]⟩
    | 7, hj => exact Or.inl ⟨rfl, (Option.some.inj (Option.some.inj hj)).symm⟩
    | 8, hj => exact Or.inr ⟨by decide, hj, fun h => absurd h (by decide)⟩
    | 9, hj => exact Or.inr ⟨by decide, hj, fun h => absurd h (by decide)⟩
    | q + 10, hj => simp at hj
set_option maxRecDepth 100000 in
theorem inc_10_8_1_i {o0 o1 o2 o3 o4 o5 o6 o9 : Option Value} {pv : Int32} {x : Int32} (hdg : decode cc pc = .ok (.iinc 8 1, 3)) (kk : R G l y cc 10 ret d mc ms Q (pc + 3) [o0, o1, o2, o3, o4, o5, o6, (some (.int pv)), (some (.int (x + 1))), o9] st w k n) : R G l y cc 10 ret d mc ms Q pc [o0, o1, o2, o3, o4, o5, o6, (some (.int pv)), (some (.int x)), o9] st w k n := by
  intro p e Rm s m args below meth c Qt C hret H locs ls hH hS hl
  have hm : ((8 : Nat), Value.int x) ∈ asL G [o0, o1, o2, o3, o4, o5, o6, (some (.int pv)), (some (.int x)), o9] := asL_mem (v := .int x) rfl
  obtain ⟨kq, hkq⟩ := List.getElem?_of_mem hm
  refine lv_iinc (v := x + 1) C.1 C.2.1 hdg (hasL_as hl) hkq (by rfl) (by decide) rfl (fun ls' h' => kk p e Rm s m args below meth c Qt C hret H locs ls' hH hS (hasL_set1 (x := .int (x + 1)) h' ?_))
  intro j v hj
  match j, hj with
    | 0, hj => exact Or.inr ⟨by decide, hj, fun h => absurd h (by decide)⟩
    | 1, hj => exact Or.inr ⟨by decide, hj, fun h => absurd h (by decide)⟩
    | 2, hj => exact Or.inr ⟨by decide, hj, fun h => absurd h (by decide)⟩
    | 3, hj => exact Or.inr ⟨by decide, hj, fun h => absurd h (by decide)⟩
    | 4, hj => exact Or.inr ⟨by decide, hj, fun h => absurd h (by decide)⟩
    | 5, hj => exact Or.inr ⟨by decide, hj, fun h => absurd h (by decide)⟩
    | 6, hj => exact Or.inr ⟨by decide, hj, fun h => absurd h (by decide)⟩
    | 7, hj => exact Or.inr ⟨by decide, hj, fun _ => by cases hj; simp [Value.category]⟩
    | 8, hj => exact Or.inl ⟨rfl, (Option.some.inj (Option.some.inj hj)).symm⟩
    | 9, hj => exact Or.inr ⟨by decide, hj, fun h => absurd h (by decide)⟩
    | q + 10, hj => simp at hj
set_option maxRecDepth 100000 in
theorem inc_11_10_1_i {o0 o1 o2 o3 o4 o5 o6 o7 o8 : Option Value} {pv : Int32} {x : Int32} (hdg : decode cc pc = .ok (.iinc 10 1, 3)) (kk : R G l y cc 11 ret d mc ms Q (pc + 3) [o0, o1, o2, o3, o4, o5, o6, o7, o8, (some (.int pv)), (some (.int (x + 1)))] st w k n) : R G l y cc 11 ret d mc ms Q pc [o0, o1, o2, o3, o4, o5, o6, o7, o8, (some (.int pv)), (some (.int x))] st w k n := by
  intro p e Rm s m args below meth c Qt C hret H locs ls hH hS hl
  have hm : ((10 : Nat), Value.int x) ∈ asL G [o0, o1, o2, o3, o4, o5, o6, o7, o8, (some (.int pv)), (some (.int x))] := asL_mem (v := .int x) rfl
  obtain ⟨kq, hkq⟩ := List.getElem?_of_mem hm
  refine lv_iinc (v := x + 1) C.1 C.2.1 hdg (hasL_as hl) hkq (by rfl) (by decide) rfl (fun ls' h' => kk p e Rm s m args below meth c Qt C hret H locs ls' hH hS (hasL_set1 (x := .int (x + 1)) h' ?_))
  intro j v hj
  match j, hj with
    | 0, hj => exact Or.inr ⟨by decide, hj, fun h => absurd h (by decide)⟩
    | 1, hj => exact Or.inr ⟨by decide, hj, fun h => absurd h (by decide)⟩
    | 2, hj => exact Or.inr ⟨by decide, hj, fun h => absurd h (by decide)⟩
    | 3, hj => exact Or.inr ⟨by decide, hj, fun h => absurd h (by decide)⟩
    | 4, hj => exact Or.inr ⟨by decide, hj, fun h => absurd h (by decide)⟩
    | 5, hj => exact Or.inr ⟨by decide, hj, fun h => absurd h (by decide)⟩
    | 6, hj => exact Or.inr ⟨by decide, hj, fun h => absurd h (by decide)⟩
    | 7, hj => exact Or.inr ⟨by decide, hj, fun h => absurd h (by decide)⟩
    | 8, hj => exact Or.inr ⟨by decide, hj, fun h => absurd h (by decide)⟩
    | 9, hj => exact Or.inr ⟨by decide, hj, fun _ => by cases hj; simp [Value.category]⟩
    | 10, hj => exact Or.inl ⟨rfl, (Option.some.inj (Option.some.inj hj)).symm⟩
    | q + 11, hj => simp at hj
set_option maxRecDepth 100000 in
theorem inc_11_10_1_n {o0 o1 o2 o3 o4 o5 o6 o7 o8 : Option Value} {x : Int32} (hdg : decode cc pc = .ok (.iinc 10 1, 3)) (kk : R G l y cc 11 ret d mc ms Q (pc + 3) [o0, o1, o2, o3, o4, o5, o6, o7, o8, none, (some (.int (x + 1)))] st w k n) : R G l y cc 11 ret d mc ms Q pc [o0, o1, o2, o3, o4, o5, o6, o7, o8, none, (some (.int x))] st w k n := by
  intro p e Rm s m args below meth c Qt C hret H locs ls hH hS hl
  have hm : ((10 : Nat), Value.int x) ∈ asL G [o0, o1, o2, o3, o4, o5, o6, o7, o8, none, (some (.int x))] := asL_mem (v := .int x) rfl
  obtain ⟨kq, hkq⟩ := List.getElem?_of_mem hm
  refine lv_iinc (v := x + 1) C.1 C.2.1 hdg (hasL_as hl) hkq (by rfl) (by decide) rfl (fun ls' h' => kk p e Rm s m args below meth c Qt C hret H locs ls' hH hS (hasL_set1 (x := .int (x + 1)) h' ?_))
  intro j v hj
  match j, hj with
    | 0, hj => exact Or.inr ⟨by decide, hj, fun h => absurd h (by decide)⟩
    | 1, hj => exact Or.inr ⟨by decide, hj, fun h => absurd h (by decide)⟩
    | 2, hj => exact Or.inr ⟨by decide, hj, fun h => absurd h (by decide)⟩
    | 3, hj => exact Or.inr ⟨by decide, hj, fun h => absurd h (by decide)⟩
    | 4, hj => exact Or.inr ⟨by decide, hj, fun h => absurd h (by decide)⟩
    | 5, hj => exact Or.inr ⟨by decide, hj, fun h => absurd h (by decide)⟩
    | 6, hj => exact Or.inr ⟨by decide, hj, fun h => absurd h (by decide)⟩
    | 7, hj => exact Or.inr ⟨by decide, hj, fun h => absurd h (by decide)⟩
    | 8, hj => exact Or.inr ⟨by decide, hj, fun h => absurd h (by decide)⟩
    | 9, hj => cases hj
    | 10, hj => exact Or.inl ⟨rfl, (Option.some.inj (Option.some.inj hj)).symm⟩
    | q + 11, hj => simp at hj
set_option maxRecDepth 100000 in
theorem inc_11_4_1_i {o0 o1 o2 o5 o6 o7 o8 o9 o10 : Option Value} {pv : Int32} {x : Int32} (hdg : decode cc pc = .ok (.iinc 4 1, 3)) (kk : R G l y cc 11 ret d mc ms Q (pc + 3) [o0, o1, o2, (some (.int pv)), (some (.int (x + 1))), o5, o6, o7, o8, o9, o10] st w k n) : R G l y cc 11 ret d mc ms Q pc [o0, o1, o2, (some (.int pv)), (some (.int x)), o5, o6, o7, o8, o9, o10] st w k n := by
  intro p e Rm s m args below meth c Qt C hret H locs ls hH hS hl
  have hm : ((4 : Nat), Value.int x) ∈ asL G [o0, o1, o2, (some (.int pv)), (some (.int x)), o5, o6, o7, o8, o9, o10] := asL_mem (v := .int x) rfl
  obtain ⟨kq, hkq⟩ := List.getElem?_of_mem hm
  refine lv_iinc (v := x + 1) C.1 C.2.1 hdg (hasL_as hl) hkq (by rfl) (by decide) rfl (fun ls' h' => kk p e Rm s m args below meth c Qt C hret H locs ls' hH hS (hasL_set1 (x := .int (x + 1)) h' ?_))
  intro j v hj
  match j, hj with
    | 0, hj => exact Or.inr ⟨by decide, hj, fun h => absurd h (by decide)⟩
    | 1, hj => exact Or.inr ⟨by decide, hj, fun h => absurd h (by decide)⟩
    | 2, hj => exact Or.inr ⟨by decide, hj, fun h => absurd h (by decide)⟩
    | 3, hj => exact Or.inr ⟨by decide, hj, fun _ => by cases hj; simp [Value.category]⟩
    | 4, hj => exact Or.inl ⟨rfl, (Option.some.inj (Option.some.inj hj)).symm⟩
    | 5, hj => exact Or.inr ⟨by decide, hj, fun h => absurd h (by decide)⟩
    | 6, hj => exact Or.inr ⟨by decide, hj, fun h => absurd h (by decide)⟩
    | 7, hj => exact Or.inr ⟨by decide, hj, fun h => absurd h (by decide)⟩
    | 8, hj => exact Or.inr ⟨by decide, hj, fun h => absurd h (by decide)⟩
    | 9, hj => exact Or.inr ⟨by decide, hj, fun h => absurd h (by decide)⟩
    | 10, hj => exact Or.inr ⟨by decide, hj, fun h => absurd h (by decide)⟩
    | q + 11, hj => simp at hj
set_option maxRecDepth 100000 in
theorem inc_11_5_1_i {o0 o1 o2 o3 o6 o7 o8 o9 o10 : Option Value} {pv : Int32} {x : Int32} (hdg : decode cc pc = .ok (.iinc 5 1, 3)) (kk : R G l y cc 11 ret d mc ms Q (pc + 3) [o0, o1, o2, o3, (some (.int pv)), (some (.int (x + 1))), o6, o7, o8, o9, o10] st w k n) : R G l y cc 11 ret d mc ms Q pc [o0, o1, o2, o3, (some (.int pv)), (some (.int x)), o6, o7, o8, o9, o10] st w k n := by
  intro p e Rm s m args below meth c Qt C hret H locs ls hH hS hl
  have hm : ((5 : Nat), Value.int x) ∈ asL G [o0, o1, o2, o3, (some (.int pv)), (some (.int x)), o6, o7, o8, o9, o10] := asL_mem (v := .int x) rfl
  obtain ⟨kq, hkq⟩ := List.getElem?_of_mem hm
  refine lv_iinc (v := x + 1) C.1 C.2.1 hdg (hasL_as hl) hkq (by rfl) (by decide) rfl (fun ls' h' => kk p e Rm s m args below meth c Qt C hret H locs ls' hH hS (hasL_set1 (x := .int (x + 1)) h' ?_))
  intro j v hj
  match j, hj with
    | 0, hj => exact Or.inr ⟨by decide, hj, fun h => absurd h (by decide)⟩
    | 1, hj => exact Or.inr ⟨by decide, hj, fun h => absurd h (by decide)⟩
    | 2, hj => exact Or.inr ⟨by decide, hj, fun h => absurd h (by decide)⟩
    | 3, hj => exact Or.inr ⟨by decide, hj, fun h => absurd h (by decide)⟩
    | 4, hj => exact Or.inr ⟨by decide, hj, fun _ => by cases hj; simp [Value.category]⟩
    | 5, hj => exact Or.inl ⟨rfl, (Option.some.inj (Option.some.inj hj)).symm⟩
    | 6, hj => exact Or.inr ⟨by decide, hj, fun h => absurd h (by decide)⟩
    | 7, hj => exact Or.inr ⟨by decide, hj, fun h => absurd h (by decide)⟩
    | 8, hj => exact Or.inr ⟨by decide, hj, fun h => absurd h (by decide)⟩
    | 9, hj => exact Or.inr ⟨by decide, hj, fun h => absurd h (by decide)⟩
    | 10, hj => exact Or.inr ⟨by decide, hj, fun h => absurd h (by decide)⟩
    | q + 11, hj => simp at hj
set_option maxRecDepth 100000 in
theorem inc_11_6_1_i {o0 o1 o2 o3 o4 o7 o8 o9 o10 : Option Value} {pv : Int32} {x : Int32} (hdg : decode cc pc = .ok (.iinc 6 1, 3)) (kk : R G l y cc 11 ret d mc ms Q (pc + 3) [o0, o1, o2, o3, o4, (some (.int pv)), (some (.int (x + 1))), o7, o8, o9, o10] st w k n) : R G l y cc 11 ret d mc ms Q pc [o0, o1, o2, o3, o4, (some (.int pv)), (some (.int x)), o7, o8, o9, o10] st w k n := by
  intro p e Rm s m args below meth c Qt C hret H locs ls hH hS hl
  have hm : ((6 : Nat), Value.int x) ∈ asL G [o0, o1, o2, o3, o4, (some (.int pv)), (some (.int x)), o7, o8, o9, o10] := asL_mem (v := .int x) rfl
  obtain ⟨kq, hkq⟩ := List.getElem?_of_mem hm
  refine lv_iinc (v := x + 1) C.1 C.2.1 hdg (hasL_as hl) hkq (by rfl) (by decide) rfl (fun ls' h' => kk p e Rm s m args below meth c Qt C hret H locs ls' hH hS (hasL_set1 (x := .int (x + 1)) h' ?_))
  intro j v hj
  match j, hj with
    | 0, hj => exact Or.inr ⟨by decide, hj, fun h => absurd h (by decide)⟩
    | 1, hj => exact Or.inr ⟨by decide, hj, fun h => absurd h (by decide)⟩
    | 2, hj => exact Or.inr ⟨by decide, hj, fun h => absurd h (by decide)⟩
    | 3, hj => exact Or.inr ⟨by decide, hj, fun h => absurd h (by decide)⟩
    | 4, hj => exact Or.inr ⟨by decide, hj, fun h => absurd h (by decide)⟩
    | 5, hj => exact Or.inr ⟨by decide, hj, fun _ => by cases hj; simp [Value.category]⟩
    | 6, hj => exact Or.inl ⟨rfl, (Option.some.inj (Option.some.inj hj)).symm⟩
    | 7, hj => exact Or.inr ⟨by decide, hj, fun h => absurd h (by decide)⟩
    | 8, hj => exact Or.inr ⟨by decide, hj, fun h => absurd h (by decide)⟩
    | 9, hj => exact Or.inr ⟨by decide, hj, fun h => absurd h (by decide)⟩
    | 10, hj => exact Or.inr ⟨by decide, hj, fun h => absurd h (by decide)⟩
    | q + 11, hj => simp at hj
set_option maxRecDepth 100000 in
theorem inc_2_1_1_a  {pv : Nat} {x : Int32} (hdg : decode cc pc = .ok (.iinc 1 1, 3)) (kk : R G l y cc 2 ret d mc ms Q (pc + 3) [(some (.ref pv)), (some (.int (x + 1)))] st w k n) : R G l y cc 2 ret d mc ms Q pc [(some (.ref pv)), (some (.int x))] st w k n := by
  intro p e Rm s m args below meth c Qt C hret H locs ls hH hS hl
  have hm : ((1 : Nat), Value.int x) ∈ asL G [(some (.ref pv)), (some (.int x))] := asL_mem (v := .int x) rfl
  obtain ⟨kq, hkq⟩ := List.getElem?_of_mem hm
  refine lv_iinc (v := x + 1) C.1 C.2.1 hdg (hasL_as hl) hkq (by rfl) (by decide) rfl (fun ls' h' => kk p e Rm s m args below meth c Qt C hret H locs ls' hH hS (hasL_set1 (x := .int (x + 1)) h' ?_))
  intro j v hj
  match j, hj with
    | 0, hj => exact Or.inr ⟨by decide, hj, fun _ => by cases hj; simp [Value.category]⟩
    | 1, hj => exact Or.inl ⟨rfl, (Option.some.inj (Option.some.inj hj)).symm⟩
    | q + 2, hj => simp at hj
set_option maxRecDepth 100000 in
theorem inc_3_1_1_a {o2 : Option Value} {pv : Nat} {x : Int32} (hdg : decode cc pc = .ok (.iinc 1 1, 3)) (kk : R G l y cc 3 ret d mc ms Q (pc + 3) [(some (.ref pv)), (some (.int (x + 1))), o2] st w k n) : R G l y cc 3 ret d mc ms Q pc [(some (.ref pv)), (some (.int x)), o2] st w k n := by
  intro p e Rm s m args below meth c Qt C hret H locs ls hH hS hl
  have hm : ((1 : Nat), Value.int x) ∈ asL G [(some (.ref pv)), (some (.int x)), o2] := asL_mem (v := .int x) rfl
  obtain ⟨kq, hkq⟩ := List.getElem?_of_mem hm
  refine lv_iinc (v := x + 1) C.1 C.2.1 hdg (hasL_as hl) hkq (by rfl) (by decide) rfl (fun ls' h' => kk p e Rm s m args below meth c Qt C hret H locs ls' hH hS (hasL_set1 (x := .int (x + 1)) h' ?_))
  intro j v hj
  match j, hj with
    | 0, hj => exact Or.inr ⟨by decide, hj, fun _ => by cases hj; simp [Value.category]⟩
    | 1, hj => exact Or.inl ⟨rfl, (Option.some.inj (Option.some.inj hj)).symm⟩
    | 2, hj => exact Or.inr ⟨by decide, hj, fun h => absurd h (by decide)⟩
    | q + 3, hj => simp at hj
set_option maxRecDepth 100000 in
theorem inc_3_2_1_a {o0 : Option Value} {pv : Nat} {x : Int32} (hdg : decode cc pc = .ok (.iinc 2 1, 3)) (kk : R G l y cc 3 ret d mc ms Q (pc + 3) [o0, (some (.ref pv)), (some (.int (x + 1)))] st w k n) : R G l y cc 3 ret d mc ms Q pc [o0, (some (.ref pv)), (some (.int x))] st w k n := by
  intro p e Rm s m args below meth c Qt C hret H locs ls hH hS hl
  have hm : ((2 : Nat), Value.int x) ∈ asL G [o0, (some (.ref pv)), (some (.int x))] := asL_mem (v := .int x) rfl
  obtain ⟨kq, hkq⟩ := List.getElem?_of_mem hm
  refine lv_iinc (v := x + 1) C.1 C.2.1 hdg (hasL_as hl) hkq (by rfl) (by decide) rfl (fun ls' h' => kk p e Rm s m args below meth c Qt C hret H locs ls' hH hS (hasL_set1 (x := .int (x + 1)) h' ?_))
  intro j v hj
  match j, hj with
    | 0, hj => exact Or.inr ⟨by decide, hj, fun h => absurd h (by decide)⟩
    | 1, hj => exact Or.inr ⟨by decide, hj, fun _ => by cases hj; simp [Value.category]⟩
    | 2, hj => exact Or.inl ⟨rfl, (Option.some.inj (Option.some.inj hj)).symm⟩
    | q + 3, hj => simp at hj
set_option maxRecDepth 100000 in
theorem inc_3_2_1_i {o0 : Option Value} {pv : Int32} {x : Int32} (hdg : decode cc pc = .ok (.iinc 2 1, 3)) (kk : R G l y cc 3 ret d mc ms Q (pc + 3) [o0, (some (.int pv)), (some (.int (x + 1)))] st w k n) : R G l y cc 3 ret d mc ms Q pc [o0, (some (.int pv)), (some (.int x))] st w k n := by
  intro p e Rm s m args below meth c Qt C hret H locs ls hH hS hl
  have hm : ((2 : Nat), Value.int x) ∈ asL G [o0, (some (.int pv)), (some (.int x))] := asL_mem (v := .int x) rfl
  obtain ⟨kq, hkq⟩ := List.getElem?_of_mem hm
  refine lv_iinc (v := x + 1) C.1 C.2.1 hdg (hasL_as hl) hkq (by rfl) (by decide) rfl (fun ls' h' => kk p e Rm s m args below meth c Qt C hret H locs ls' hH hS (hasL_set1 (x := .int (x + 1)) h' ?_))
  intro j v hj
  match j, hj with
    | 0, hj => exact Or.inr ⟨by decide, hj, fun h => absurd h (by decide)⟩
    | 1, hj => exact Or.inr ⟨by decide, hj, fun _ => by cases hj; simp [Value.category]⟩
    | 2, hj => exact Or.inl ⟨rfl, (Option.some.inj (Option.some.inj hj)).symm⟩
    | q + 3, hj => simp at hj
set_option maxRecDepth 100000 in
theorem inc_4_2_1_i {o0 o3 : Option Value} {pv : Int32} {x : Int32} (hdg : decode cc pc = .ok (.iinc 2 1, 3)) (kk : R G l y cc 4 ret d mc ms Q (pc + 3) [o0, (some (.int pv)), (some (.int (x + 1))), o3] st w k n) : R G l y cc 4 ret d mc ms Q pc [o0, (some (.int pv)), (some (.int x)), o3] st w k n := by
  intro p e Rm s m args below meth c Qt C hret H locs ls hH hS hl
  have hm : ((2 : Nat), Value.int x) ∈ asL G [o0, (some (.int pv)), (some (.int x)), o3] := asL_mem (v := .int x) rfl
  obtain ⟨kq, hkq⟩ := List.getElem?_of_mem hm
  refine lv_iinc (v := x + 1) C.1 C.2.1 hdg (hasL_as hl) hkq (by rfl) (by decide) rfl (fun ls' h' => kk p e Rm s m args below meth c Qt C hret H locs ls' hH hS (hasL_set1 (x := .int (x + 1)) h' ?_))
  intro j v hj
  match j, hj with
    | 0, hj => exact Or.inr ⟨by decide, hj, fun h => absurd h (by decide)⟩
    | 1, hj => exact Or.inr ⟨by decide, hj, fun _ => by cases hj; simp [Value.category]⟩
    | 2, hj => exact Or.inl ⟨rfl, (Option.some.inj (Option.some.inj hj)).symm⟩
    | 3, hj => exact Or.inr ⟨by decide, hj, fun h => absurd h (by decide)⟩
    | q + 4, hj => simp at hj
set_option maxRecDepth 100000 in
theorem inc_4_3_1_i {o0 o1 : Option Value} {pv : Int32} {x : Int32} (hdg : decode cc pc = .ok (.iinc 3 1, 3)) (kk : R G l y cc 4 ret d mc ms Q (pc + 3) [o0, o1, (some (.int pv)), (some (.int (x + 1)))] st w k n) : R G l y cc 4 ret d mc ms Q pc [o0, o1, (some (.int pv)), (some (.int x))] st w k n := by
  intro p e Rm s m args below meth c Qt C hret H locs ls hH hS hl
  have hm : ((3 : Nat), Value.int x) ∈ asL G [o0, o1, (some (.int pv)), (some (.int x))] := asL_mem (v := .int x) rfl
  obtain ⟨kq, hkq⟩ := List.getElem?_of_mem hm
  refine lv_iinc (v := x + 1) C.1 C.2.1 hdg (hasL_as hl) hkq (by rfl) (by decide) rfl (fun ls' h' => kk p e Rm s m args below meth c Qt C hret H locs ls' hH hS (hasL_set1 (x := .int (x + 1)) h' ?_))
  intro j v hj
  match j, hj with
    | 0, hj => exact Or.inr ⟨by decide, hj, fun h => absurd h (by decide)⟩
    | 1, hj => exact Or.inr ⟨by decide, hj, fun h => absurd h (by decide)⟩
    | 2, hj => exact Or.inr ⟨by decide, hj, fun _ => by cases hj; simp [Value.category]⟩
    | 3, hj => exact Or.inl ⟨rfl, (Option.some.inj (Option.some.inj hj)).symm⟩
    | q + 4, hj => simp at hj
set_option maxRecDepth 100000 in
theorem inc_4_3_9_a {o0 o1 : Option Value} {pv : Nat} {x : Int32} (hdg : decode cc pc = .ok (.iinc 3 9, 3)) (kk : R G l y cc 4 ret d mc ms Q (pc + 3) [o0, o1, (some (.ref pv)), (some (.int (x + 9)))] st w k n) : R G l y cc 4 ret d mc ms Q pc [o0, o1, (some (.ref pv)), (some (.int x))] st w k n := by
  intro p e Rm s m args below meth c Qt C hret H locs ls hH hS hl
  have hm : ((3 : Nat), Value.int x) ∈ asL G [o0, o1, (some (.ref pv)), (some (.int x))] := asL_mem (v := .int x) rfl
  obtain ⟨kq, hkq⟩ := List.getElem?_of_mem hm
  refine lv_iinc (v := x + 9) C.1 C.2.1 hdg (hasL_as hl) hkq (by rfl) (by decide) rfl (fun ls' h' => kk p e Rm s m args below meth c Qt C hret H locs ls' hH hS (hasL_set1 (x := .int (x + 9)) h' ?_))
  intro j v hj
  match j, hj with
    | 0, hj => exact Or.inr ⟨by decide, hj, fun h => absurd h (by decide)⟩
    | 1, hj => exact Or.inr ⟨by decide, hj, fun h => absurd h (by decide)⟩
    | 2, hj => exact Or.inr ⟨by decide, hj, fun _ => by cases hj; simp [Value.category]⟩
    | 3, hj => exact Or.inl ⟨rfl, (Option.some.inj (Option.some.inj hj)).symm⟩
    | q + 4, hj => simp at hj
set_option maxRecDepth 100000 in
theorem inc_5_2_m1_i {o0 o3 o4 : Option Value} {pv : Int32} {x : Int32} (hdg : decode cc pc = .ok (.iinc 2 (-1), 3)) (kk : R G l y cc 5 ret d mc ms Q (pc + 3) [o0, (some (.int pv)), (some (.int (x + (-1)))), o3, o4] st w k n) : R G l y cc 5 ret d mc ms Q pc [o0, (some (.int pv)), (some (.int x)), o3, o4] st w k n := by
  intro p e Rm s m args below meth c Qt C hret H locs ls hH hS hl
  have hm : ((2 : Nat), Value.int x) ∈ asL G [o0, (some (.int pv)), (some (.int x)), o3, o4] := asL_mem (v := .int x) rfl
  obtain ⟨kq, hkq⟩ := List.getElem?_of_mem hm
  refine lv_iinc (v := x + (-1)) C.1 C.2.1 hdg (hasL_as hl) hkq (by rfl) (by decide) rfl (fun ls' h' => kk p e Rm s m args below meth c Qt C hret H locs ls' hH hS (hasL_set1 (x := .int (x + (-1))) h' ?_))
  intro j v hj
  match j, hj with
    | 0, hj => exact Or.inr ⟨by decide, (by simpa using hj), fun h => absurd h (by decide)⟩
    | 1, hj => exact Or.inr ⟨by decide, (by simpa using hj), fun _ => by cases hj; simp [Value.category]⟩
    | 2, hj => exact Or.inl ⟨rfl, (Option.some.inj (Option.some.inj hj)).symm⟩
    | 3, hj => exact Or.inr ⟨by decide, (by simpa using hj), fun h => absurd h (by decide)⟩
    | 4, hj => exact Or.inr ⟨by decide, (by simpa using hj), fun h => absurd h (by decide)⟩
    | q + 5, hj => simp at hj
set_option maxRecDepth 100000 in
theorem inc_5_2_1_i {o0 o3 o4 : Option Value} {pv : Int32} {x : Int32} (hdg : decode cc pc = .ok (.iinc 2 1, 3)) (kk : R G l y cc 5 ret d mc ms Q (pc + 3) [o0, (some (.int pv)), (some (.int (x + 1))), o3, o4] st w k n) : R G l y cc 5 ret d mc ms Q pc [o0, (some (.int pv)), (some (.int x)), o3, o4] st w k n := by
  intro p e Rm s m args below meth c Qt C hret H locs ls hH hS hl
  have hm : ((2 : Nat), Value.int x) ∈ asL G [o0, (some (.int pv)), (some (.int x)), o3, o4] := asL_mem (v := .int x) rfl
  obtain ⟨kq, hkq⟩ := List.getElem?_of_mem hm
  refine lv_iinc (v := x + 1) C.1 C.2.1 hdg (hasL_as hl) hkq (by rfl) (by decide) rfl (fun ls' h' => kk p e Rm s m args below meth c Qt C hret H locs ls' hH hS (hasL_set1 (x := .int (x + 1)) h' ?_))
  intro j v hj
  match j, hj with
    | 0, hj => exact Or.inr ⟨by decide, hj, fun h => absurd h (by decide)⟩
    | 1, hj => exact Or.inr ⟨by decide, hj, fun _ => by cases hj; simp [Value.category]⟩
    | 2, hj => exact Or.inl ⟨rfl, (Option.some.inj (Option.some.inj hj)).symm⟩
    | 3, hj => exact Or.inr ⟨by decide, hj, fun h => absurd h (by decide)⟩
    | 4, hj => exact Or.inr ⟨by decide, hj, fun h => absurd h (by decide)⟩
    | q + 5, hj => simp at hj
set_option maxRecDepth 100000 in
theorem inc_5_3_1_a {o0 o1 o4 : Option Value} {pv : Nat} {x : Int32} (hdg : decode cc pc = .ok (.iinc 3 1, 3)) (kk : R G l y cc 5 ret d mc ms Q (pc + 3) [o0, o1, (some (.ref pv)), (some (.int (x + 1))), o4] st w k n) : R G l y cc 5 ret d mc ms Q pc [o0, o1, (some (.ref pv)), (some (.int x)), o4] st w k n := by
  intro p e Rm s m args below meth c Qt C hret H locs ls hH hS hl
  have hm : ((3 : Nat), Value.int x) ∈ asL G [o0, o1, (some (.ref pv)), (some (.int x)), o4] := asL_mem (v := .int x) rfl
  obtain ⟨kq, hkq⟩ := List.getElem?_of_mem hm
  refine lv_iinc (v := x + 1) C.1 C.2.1 hdg (hasL_as hl) hkq (by rfl) (by decide) rfl (fun ls' h' => kk p e Rm s m args below meth c Qt C hret H locs ls' hH hS (hasL_set1 (x := .int (x + 1)) h' ?_))
  intro j v hj
  match j, hj with
    | 0, hj => exact Or.inr ⟨by decide, hj, fun h => absurd h (by decide)⟩
    | 1, hj => exact Or.inr ⟨by decide, hj, fun h => absurd h (by decide)⟩
    | 2, hj => exact Or.inr ⟨by decide, hj, fun _ => by cases hj; simp [Value.category]⟩
    | 3, hj => exact Or.inl ⟨rfl, (Option.some.inj (Option.some.inj hj)).symm⟩
    | 4, hj => exact Or.inr ⟨by decide, hj, fun h => absurd h (by decide)⟩
    | q + 5, hj => simp at hj
set_option maxRecDepth 100000 in
theorem inc_5_4_1_i {o0 o1 o2 : Option Value} {pv : Int32} {x : Int32} (hdg : decode cc pc = .ok (.iinc 4 1, 3)) (kk : R G l y cc 5 ret d mc ms Q (pc + 3) [o0, o1, o2, (some (.int pv)), (some (.int (x + 1)))] st w k n) : R G l y cc 5 ret d mc ms Q pc [o0, o1, o2, (some (.int pv)), (some (.int x))] st w k n := by
  intro p e Rm s m args below meth c Qt C hret H locs ls hH hS hl
  have hm : ((4 : Nat), Value.int x) ∈ asL G [o0, o1, o2, (some (.int pv)), (some (.int x))] := asL_mem (v := .int x) rfl
  obtain ⟨kq, hkq⟩ := List.getElem?_of_mem hm
  refine lv_iinc (v := x + 1) C.1 C.2.1 hdg (hasL_as hl) hkq (by rfl) (by decide) rfl (fun ls' h' => kk p e Rm s m args below meth c Qt C hret H locs ls' hH hS (hasL_set1 (x := .int (x + 1)) h' ?_))
  intro j v hj
  match j, hj with
    | 0, hj => exact Or.inr ⟨by decide, hj, fun h => absurd h (by decide)⟩
    | 1, hj => exact Or.inr ⟨by decide, hj, fun h => absurd h (by decide)⟩
    | 2, hj => exact Or.inr ⟨by decide, hj, fun h => absurd h (by decide)⟩
    | 3, hj => exact Or.inr ⟨by decide, hj, fun _ => by cases hj; simp [Value.category]⟩
    | 4, hj => exact Or.inl ⟨rfl, (Option.some.inj (Option.some.inj hj)).symm⟩
    | q + 5, hj => simp at hj
set_option maxRecDepth 100000 in
theorem inc_5_4_1_n {o0 o1 o2 : Option Value} {x : Int32} (hdg : decode cc pc = .ok (.iinc 4 1, 3)) (kk : R G l y cc 5 ret d mc ms Q (pc + 3) [o0, o1, o2, none, (some (.int (x + 1)))] st w k n) : R G l y cc 5 ret d mc ms Q pc [o0, o1, o2, none, (some (.int x))] st w k n := by
  intro p e Rm s m args below meth c Qt C hret H locs ls hH hS hl
  have hm : ((4 : Nat), Value.int x) ∈ asL G [o0, o1, o2, none, (some (.int x))] := asL_mem (v := .int x) rfl
  obtain ⟨kq, hkq⟩ := List.getElem?_of_mem hm
  refine lv_iinc (v := x + 1) C.1 C.2.1 hdg (hasL_as hl) hkq (by rfl) (by decide) rfl (fun ls' h' => kk p e Rm s m args below meth c Qt C hret H locs ls' hH hS (hasL_set1 (x := .int (x + 1)) h' ?_))
  intro j v hj
  match j, hj with
    | 0, hj => exact Or.inr ⟨by decide, hj, fun h => absurd h (by decide)⟩
    | 1, hj => exact Or.inr ⟨by decide, hj, fun h => absurd h (by decide)⟩
    | 2, hj => exact Or.inr ⟨by decide, hj, fun h => absurd h (by decide)⟩
    | 3, hj => cases hj
    | 4, hj => exact Or.inl ⟨rfl, (Option.some.inj (Option.some.inj hj)).symm⟩
    | q + 5, hj => simp at hj
set_option maxRecDepth 100000 in
theorem inc_6_3_m1_i {o0 o1 o4 o5 : Option Value} {pv : Int32} {x : Int32} (hdg : decode cc pc = .ok (.iinc 3 (-1), 3)) (kk : R G l y cc 6 ret d mc ms Q (pc + 3) [o0, o1, (some (.int pv)), (some (.int (x + (-1)))), o4, o5] st w k n) : R G l y cc 6 ret d mc ms Q pc [o0, o1, (some (.int pv)), (some (.int x)), o4, o5] st w k n := by
  intro p e Rm s m args below meth c Qt C hret H locs ls hH hS hl
  have hm : ((3 : Nat), Value.int x) ∈ asL G [o0, o1, (some (.int pv)), (some (.int x)), o4, o5] := asL_mem (v := .int x) rfl
  obtain ⟨kq, hkq⟩ := List.getElem?_of_mem hm
  refine lv_iinc (v := x + (-1)) C.1 C.2.1 hdg (hasL_as hl) hkq (by rfl) (by decide) rfl (fun ls' h' => kk p e Rm s m args below meth c Qt C hret H locs ls' hH hS (hasL_set1 (x := .int (x + (-1))) h' ?_))
  intro j v hj
  match j, hj with
    | 0, hj => exact Or.inr ⟨by decide, (by simpa using hj), fun h => absurd h (by decide)⟩
    | 1, hj => exact Or.inr ⟨by decide, (by simpa using hj), fun h => absurd h (by decide)⟩
    | 2, hj => exact Or.inr ⟨by decide, (by simpa using hj), fun _ => by cases hj; simp [Value.category]⟩
    | 3, hj => exact Or.inl ⟨rfl, (Option.some.inj (Option.some.inj hj)).symm⟩
    | 4, hj => exact Or.inr ⟨by decide, (by simpa using hj), fun h => absurd h (by decide)⟩
    | 5, hj => exact Or.inr ⟨by decide, (by simpa using hj), fun h => absurd h (by decide)⟩
    | q + 6, hj => simp at hj
set_option maxRecDepth 100000 in
theorem inc_6_3_1_i {o0 o1 o4 o5 : Option Value} {pv : Int32} {x : Int32} (hdg : decode cc pc = .ok (.iinc 3 1, 3)) (kk : R G l y cc 6 ret d mc ms Q (pc + 3) [o0, o1, (some (.int pv)), (some (.int (x + 1))), o4, o5] st w k n) : R G l y cc 6 ret d mc ms Q pc [o0, o1, (some (.int pv)), (some (.int x)), o4, o5] st w k n := by
  intro p e Rm s m args below meth c Qt C hret H locs ls hH hS hl
  have hm : ((3 : Nat), Value.int x) ∈ asL G [o0, o1, (some (.int pv)), (some (.int x)), o4, o5] := asL_mem (v := .int x) rfl
  obtain ⟨kq, hkq⟩ := List.getElem?_of_mem hm
  refine lv_iinc (v := x + 1) C.1 C.2.1 hdg (hasL_as hl) hkq (by rfl) (by decide) rfl (fun ls' h' => kk p e Rm s m args below meth c Qt C hret H locs ls' hH hS (hasL_set1 (x := .int (x + 1)) h' ?_))
  intro j v hj
  match j, hj with
    | 0, hj => exact Or.inr ⟨by decide, hj, fun h => absurd h (by decide)⟩
    | 1, hj => exact Or.inr ⟨by decide, hj, fun h => absurd h (by decide)⟩
    | 2, hj => exact Or.inr ⟨by decide, hj, fun _ => by cases hj; simp [Value.category]⟩
    | 3, hj => exact Or.inl ⟨rfl, (Option.some.inj (Option.some.inj hj)).symm⟩
    | 4, hj => exact Or.inr ⟨by decide, hj, fun h => absurd h (by decide)⟩
    | 5, hj => exact Or.inr ⟨by decide, hj, fun h => absurd h (by decide)⟩
    | q + 6, hj => simp at hj
set_option maxRecDepth 100000 in
theorem inc_6_4_1_i {o0 o1 o2 o5 : Option Value} {pv : Int32} {x : Int32} (hdg : decode cc pc = .ok (.iinc 4 1, 3)) (kk : R G l y cc 6 ret d mc ms Q (pc + 3) [o0, o1, o2, (some (.int pv)), (some (.int (x + 1))), o5] st w k n) : R G l y cc 6 ret d mc ms Q pc [o0, o1, o2, (some (.int pv)), (some (.int x)), o5] st w k n := by
  intro p e Rm s m args below meth c Qt C hret H locs ls hH hS hl
  have hm : ((4 : Nat), Value.int x) ∈ asL G [o0, o1, o2, (some (.int pv)), (some (.int x)), o5] := asL_mem (v := .int x) rfl
  obtain ⟨kq, hkq⟩ := List.getElem?_of_mem hm
  refine lv_iinc (v := x + 1) C.1 C.2.1 hdg (hasL_as hl) hkq (by rfl) (by decide) rfl (fun ls' h' => kk p e Rm s m args below meth c Qt C hret H locs ls' hH hS (hasL_set1 (x := .int (x + 1)) h' ?_))
  intro j v hj
  match j, hj with
    | 0, hj => exact Or.inr ⟨by decide, hj, fun h => absurd h (by decide)⟩
    | 1, hj => exact Or.inr ⟨by decide, hj, fun h => absurd h (by decide)⟩
    | 2, hj => exact Or.inr ⟨by decide, hj, fun h => absurd h (by decide)⟩
    | 3, hj => exact Or.inr ⟨by decide, hj, fun _ => by cases hj; simp [Value.category]⟩
    | 4, hj => exact Or.inl ⟨rfl, (Option.some.inj (Option.some.inj hj)).symm⟩
    | 5, hj => exact Or.inr ⟨by decide, hj, fun h => absurd h (by decide)⟩
    | q + 6, hj => simp at hj
set_option maxRecDepth 100000 in
theorem inc_6_4_1_n {o0 o1 o2 o5 : Option Value} {x : Int32} (hdg : decode cc pc = .ok (.iinc 4 1, 3)) (kk : R G l y cc 6 ret d mc ms Q (pc + 3) [o0, o1, o2, none, (some (.int (x + 1))), o5] st w k n) : R G l y cc 6 ret d mc ms Q pc [o0, o1, o2, none, (some (.int x)), o5] st w k n := by
  intro p e Rm s m args below meth c Qt C hret H locs ls hH hS hl
  have hm : ((4 : Nat), Value.int x) ∈ asL G [o0, o1, o2, none, (some (.int x)), o5] := asL_mem (v := .int x) rfl
  obtain ⟨kq, hkq⟩ := List.getElem?_of_mem hm
  refine lv_iinc (v := x + 1) C.1 C.2.1 hdg (hasL_as hl) hkq (by rfl) (by decide) rfl (fun ls' h' => kk p e Rm s m args below meth c Qt C hret H locs ls' hH hS (hasL_set1 (x := .int (x + 1)) h' ?_))
  intro j v hj
  match j, hj with
    | 0, hj => exact Or.inr ⟨by decide, hj, fun h => absurd h (by decide)⟩
    | 1, hj => exact Or.inr ⟨by decide, hj, fun h => absurd h (by decide)⟩
    | 2, hj => exact Or.inr ⟨by decide, hj, fun h => absurd h (by decide)⟩
    | 3, hj => cases hj
    | 4, hj => exact Or.inl ⟨rfl, (Option.some.inj (Option.some.inj hj)).symm⟩
    | 5, hj => exact Or.inr ⟨by decide, hj, fun h => absurd h (by decide)⟩
    | q + 6, hj => simp at hj
set_option maxRecDepth 100000 in
theorem inc_6_5_1_i {o0 o1 o2 o3 : Option Value} {pv : Int32} {x : Int32} (hdg : decode cc pc = .ok (.iinc 5 1, 3)) (kk : R G l y cc 6 ret d mc ms Q (pc + 3) [o0, o1, o2, o3, (some (.int pv)), (some (.int (x + 1)))] st w k n) : R G l y cc 6 ret d mc ms Q pc [o0, o1, o2, o3, (some (.int pv)), (some (.int x))] st w k n := by
  intro p e Rm s m args below meth c Qt C hret H locs ls hH hS hl
  have hm : ((5 : Nat), Value.int x) ∈ asL G [o0, o1, o2, o3, (some (.int pv)), (some (.int x))] := asL_mem (v := .int x) rfl
  obtain ⟨kq, hkq⟩ := List.getElem?_of_mem hm
  refine lv_iinc (v := x + 1) C.1 C.2.1 hdg (hasL_as hl) hkq (by rfl) (by decide) rfl (fun ls' h' => kk p e Rm s m args below meth c Qt C hret H locs ls' hH hS (hasL_set1 (x := .int (x + 1)) h' ?_))
  intro j v hj
  match j, hj with
    | 0, hj => exact Or.inr ⟨by decide, hj, fun h => absurd h (by decide)⟩
    | 1, hj => exact Or.inr ⟨by decide, hj, fun h => absurd h (by decide)⟩
    | 2, hj => exact Or.inr ⟨by decide, hj, fun h => absurd h (by decide)⟩
    | 3, hj => exact Or.inr ⟨by decide, hj, fun h => absurd h (by decide)⟩
    | 4, hj => exact Or.inr ⟨by decide, hj, fun _ => by cases hj; simp [Value.category]⟩
    | 5, hj => exact Or.inl ⟨rfl, (Option.some.inj (Option.some.inj hj)).symm⟩
    | q + 6, hj => simp at hj
set_option maxRecDepth 100000 in
theorem inc_6_5_1_n {o0 o1 o2 o3 : Option Value} {x : Int32} (hdg : decode cc pc = .ok (.iinc 5 1, 3)) (kk : R G l y cc 6 ret d mc ms Q (pc + 3) [o0, o1, o2, o3, none, (some (.int (x + 1)))] st w k n) : R G l y cc 6 ret d mc ms Q pc [o0, o1, o2, o3, none, (some (.int x))] st w k n := by
  intro p e Rm s m args below meth c Qt C hret H locs ls hH hS hl
  have hm : ((5 : Nat), Value.int x) ∈ asL G [o0, o1, o2, o3, none, (some (.int x))] := asL_mem (v := .int x) rfl
  obtain ⟨kq, hkq⟩ := List.getElem?_of_mem hm
  refine lv_iinc (v := x + 1) C.1 C.2.1 hdg (hasL_as hl) hkq (by rfl) (by decide) rfl (fun ls' h' => kk p e Rm s m args below meth c Qt C hret H locs ls' hH hS (hasL_set1 (x := .int (x + 1)) h' ?_))
  intro j v hj
  match j, hj with
    | 0, hj => exact Or.inr ⟨by decide, hj, fun h => absurd h (by decide)⟩
    | 1, hj => exact Or.inr ⟨by decide, hj, fun h => absurd h (by decide)⟩
    | 2, hj => exact Or.inr ⟨by decide, hj, fun h => absurd h (by decide)⟩
    | 3, hj => exact Or.inr ⟨by decide, hj, fun h => absurd h (by decide)⟩
    | 4, hj => cases hj
    | 5, hj => exact Or.inl ⟨rfl, (Option.some.inj (Option.some.inj hj)).symm⟩
    | q + 6, hj => simp at hj
set_option maxRecDepth 100000 in
theorem inc_7_3_1_i {o0 o1 o4 o5 o6 : Option Value} {pv : Int32} {x : Int32} (hdg : decode cc pc = .ok (.iinc 3 1, 3)) (kk : R G l y cc 7 ret d mc ms Q (pc + 3) [o0, o1, (some (.int pv)), (some (.int (x + 1))), o4, o5, o6] st w k n) : R G l y cc 7 ret d mc ms Q pc [o0, o1, (some (.int pv)), (some (.int x)), o4, o5, o6] st w k n := by
  intro p e Rm s m args below meth c Qt C hret H locs ls hH hS hl
  have hm : ((3 : Nat), Value.int x) ∈ asL G [o0, o1, (some (.int pv)), (some (.int x)), o4, o5, o6] := asL_mem (v := .int x) rfl
  obtain ⟨kq, hkq⟩ := List.getElem?_of_mem hm
  refine lv_iinc (v := x + 1) C.1 C.2.1 hdg (hasL_as hl) hkq (by rfl) (by decide) rfl (fun ls' h' => kk p e Rm s m args below meth c Qt C hret H locs ls' hH hS (hasL_set1 (x := .int (x + 1)) h' ?_))
  intro j v hj
  match j, hj with
    | 0, hj => exact Or.inr ⟨by decide, hj, fun h => absurd h (by decide)⟩
    | 1, hj => exact Or.inr ⟨by decide, hj, fun h => absurd h (by decide)⟩
    | 2, hj => exact Or.inr ⟨by decide, hj, fun _ => by cases hj; simp [Value.category]⟩
    | 3, hj => exact Or.inl ⟨rfl, (Option.some.inj (Option.some.inj hj)).symm⟩
    | 4, hj => exact Or.inr ⟨by decide, hj, fun h => absurd h (by decide)⟩
    | 5, hj => exact Or.inr ⟨by decide, hj, fun h => absurd h (by decide)⟩
    | 6, hj => exact Or.inr ⟨by decide, hj, fun h => absurd h (by decide)⟩
    | q + 7, hj => simp at hj
set_option maxRecDepth 100000 in
theorem inc_7_4_1_n {o0 o1 o2 o5 o6 : Option Value} {x : Int32} (hdg : decode cc pc = .ok (.iinc 4 1, 3)) (kk : R G l y cc 7 ret d mc ms Q (pc + 3) [o0, o1, o2, none, (some (.int (x + 1))), o5, o6] st w k n) : R G l y cc 7 ret d mc ms Q pc [o0, o1, o2, none, (some (.int x)), o5, o6] st w k n := by
  intro p e Rm s m args below meth c Qt C hret H locs ls hH hS hl
  have hm : ((4 : Nat), Value.int x) ∈ asL G [o0, o1, o2, none, (some (.int x)), o5, o6] := asL_mem (v := .int x) rfl
  obtain ⟨kq, hkq⟩ := List.getElem?_of_mem hm
  refine lv_iinc (v := x + 1) C.1 C.2.1 hdg (hasL_as hl) hkq (by rfl) (by decide) rfl (fun ls' h' => kk p e Rm s m args below meth c Qt C hret H locs ls' hH hS (hasL_set1 (x := .int (x + 1)) h' ?_))
  intro j v hj
  match j, hj with
    | 0, hj => exact Or.inr ⟨by decide, hj, fun h => absurd h (by decide)⟩
    | 1, hj => exact Or.inr ⟨by decide, hj, fun h => absurd h (by decide)⟩
    | 2, hj => exact Or.inr ⟨by decide, hj, fun h => absurd h (by decide)⟩
    | 3, hj => cases hj
    | 4, hj => exact Or.inl ⟨rfl, (Option.some.inj (Option.some.inj hj)).symm⟩
    | 5, hj => exact Or.inr ⟨by decide, hj, fun h => absurd h (by decide)⟩
    | 6, hj => exact Or.inr ⟨by decide, hj, fun h => absurd h (by decide)⟩
    | q + 7, hj => simp at hj
set_option maxRecDepth 100000 in
theorem inc_7_5_1_i {o0 o1 o2 o3 o6 : Option Value} {pv : Int32} {x : Int32} (hdg : decode cc pc = .ok (.iinc 5 1, 3)) (kk : R G l y cc 7 ret d mc ms Q (pc + 3) [o0, o1, o2, o3, (some (.int pv)), (some (.int (x + 1))), o6] st w k n) : R G l y cc 7 ret d mc ms Q pc [o0, o1, o2, o3, (some (.int pv)), (some (.int x)), o6] st w k n := by
  intro p e Rm s m args below meth c Qt C hret H locs ls hH hS hl
  have hm : ((5 : Nat), Value.int x) ∈ asL G [o0, o1, o2, o3, (some (.int pv)), (some (.int x)), o6] := asL_mem (v := .int x) rfl
  obtain ⟨kq, hkq⟩ := List.getElem?_of_mem hm
  refine lv_iinc (v := x + 1) C.1 C.2.1 hdg (hasL_as hl) hkq (by rfl) (by decide) rfl (fun ls' h' => kk p e Rm s m args below meth c Qt C hret H locs ls' hH hS (hasL_set1 (x := .int (x + 1)) h' ?_))
  intro j v hj
  match j, hj with
    | 0, hj => exact Or.inr ⟨by decide, hj, fun h => absurd h (by decide)⟩
    | 1, hj => exact Or.inr ⟨by decide, hj, fun h => absurd h (by decide)⟩
    | 2, hj => exact Or.inr ⟨by decide, hj, fun h => absurd h (by decide)⟩
    | 3, hj => exact Or.inr ⟨by decide, hj, fun h => absurd h (by decide)⟩
    | 4, hj => exact Or.inr ⟨by decide, hj, fun _ => by cases hj; simp [Value.category]⟩
    | 5, hj => exact Or.inl ⟨rfl, (Option.some.inj (Option.some.inj hj)).symm⟩
    | 6, hj => exact Or.inr ⟨by decide, hj, fun h => absurd h (by decide)⟩
    | q + 7, hj => simp at hj
set_option maxRecDepth 100000 in
theorem inc_7_6_1_n {o0 o1 o2 o3 o4 : Option Value} {x : Int32} (hdg : decode cc pc = .ok (.iinc 6 1, 3)) (kk : R G l y cc 7 ret d mc ms Q (pc + 3) [o0, o1, o2, o3, o4, none, (some (.int (x + 1)))] st w k n) : R G l y cc 7 ret d mc ms Q pc [o0, o1, o2, o3, o4, none, (some (.int x))] st w k n := by
  intro p e Rm s m args below meth c Qt C hret H locs ls hH hS hl
  have hm : ((6 : Nat), Value.int x) ∈ asL G [o0, o1, o2, o3, o4, none, (some (.int x))] := asL_mem (v := .int x) rfl
  obtain ⟨kq, hkq⟩ := List.getElem?_of_mem hm
  refine lv_iinc (v := x + 1) C.1 C.2.1 hdg (hasL_as hl) hkq (by rfl) (by decide) rfl (fun ls' h' => kk p e Rm s m args below meth c Qt C hret H locs ls' hH hS (hasL_set1 (x := .int (x + 1)) h' ?_))
  intro j v hj
  match j, hj with
    | 0, hj => exact Or.inr ⟨by decide, hj, fun h => absurd h (by decide)⟩
    | 1, hj => exact Or.inr ⟨by decide, hj, fun h => absurd h (by decide)⟩
    | 2, hj => exact Or.inr ⟨by decide, hj, fun h => absurd h (by decide)⟩
    | 3, hj => exact Or.inr ⟨by decide, hj, fun h => absurd h (by decide)⟩
    | 4, hj => exact Or.inr ⟨by decide, hj, fun h => absurd h (by decide)⟩
    | 5, hj => cases hj
    | 6, hj => exact Or.inl ⟨rfl, (Option.some.inj (Option.some.inj hj)).symm⟩
    | q + 7, hj => simp at hj
set_option maxRecDepth 100000 in
theorem inc_8_5_1_i {o0 o1 o2 o3 o6 o7 : Option Value} {pv : Int32} {x : Int32} (hdg : decode cc pc = .ok (.iinc 5 1, 3)) (kk : R G l y cc 8 ret d mc ms Q (pc + 3) [o0, o1, o2, o3, (some (.int pv)), (some (.int (x + 1))), o6, o7] st w k n) : R G l y cc 8 ret d mc ms Q pc [o0, o1, o2, o3, (some (.int pv)), (some (.int x)), o6, o7] st w k n := by
  intro p e Rm s m args below meth c Qt C hret H locs ls hH hS hl
  have hm : ((5 : Nat), Value.int x) ∈ asL G [o0, o1, o2, o3, (some (.int pv)), (some (.int x)), o6, o7] := asL_mem (v := .int x) rfl
  obtain ⟨kq, hkq⟩ := List.getElem?_of_mem hm
  refine lv_iinc (v := x + 1) C.1 C.2.1 hdg (hasL_as hl) hkq (by rfl) (by decide) rfl (fun ls' h' => kk p e Rm s m args below meth c Qt C hret H locs ls' hH hS (hasL_set1 (x := .int (x + 1)) h' ?_))
  intro j v hj
  match j, hj with
    | 0, hj => exact Or.inr ⟨by decide, hj, fun h => absurd h (by decide)⟩
    | 1, hj => exact Or.inr ⟨by decide, hj, fun h => absurd h (by decide)⟩
    | 2, hj => exact Or.inr ⟨by decide, hj, fun h => absurd h (by decide)⟩
    | 3, hj => exact Or.inr ⟨by decide, hj, fun h => absurd h (by decide)⟩
    | 4, hj => exact Or.inr ⟨by decide, hj, fun _ => by cases hj; simp [Value.category]⟩
    | 5, hj => exact Or.inl ⟨rfl, (Option.some.inj (Option.some.inj hj)).symm⟩
    | 6, hj => exact Or.inr ⟨by decide, hj, fun h => absurd h (by decide)⟩
    | 7, hj => exact Or.inr ⟨by decide, hj, fun h => absurd h (by decide)⟩
    | q + 8, hj => simp at hj
set_option maxRecDepth 100000 in
theorem inc_8_7_1_i {o0 o1 o2 o3 o4 o5 : Option Value} {pv : Int32} {x : Int32} (hdg : decode cc pc = .ok (.iinc 7 1, 3)) (kk : R G l y cc 8 ret d mc ms Q (pc + 3) [o0, o1, o2, o3, o4, o5, (some (.int pv)), (some (.int (x + 1)))] st w k n) : R G l y cc 8 ret d mc ms Q pc [o0, o1, o2, o3, o4, o5, (some (.int pv)), (some (.int x))] st w k n := by
  intro p e Rm s m args below meth c Qt C hret H locs ls hH hS hl
  have hm : ((7 : Nat), Value.int x) ∈ asL G [o0, o1, o2, o3, o4, o5, (some (.int pv)), (some (.int x))] := asL_mem (v := .int x) rfl
  obtain ⟨kq, hkq⟩ := List.getElem?_of_mem hm
  refine lv_iinc (v := x + 1) C.1 C.2.1 hdg (hasL_as hl) hkq (by rfl) (by decide) rfl (fun ls' h' => kk p e Rm s m args below meth c Qt C hret H locs ls' hH hS (hasL_set1 (x := .int (x + 1)) h' ?_))
  intro j v hj
  match j, hj with
    | 0, hj => exact Or.inr ⟨by decide, hj, fun h => absurd h (by decide)⟩
    | 1, hj => exact Or.inr ⟨by decide, hj, fun h => absurd h (by decide)⟩
    | 2, hj => exact Or.inr ⟨by decide, hj, fun h => absurd h (by decide)⟩
    | 3, hj => exact Or.inr ⟨by decide, hj, fun h => absurd h (by decide)⟩
    | 4, hj => exact Or.inr ⟨by decide, hj, fun h => absurd h (by decide)⟩
    | 5, hj => exact Or.inr ⟨by decide, hj, fun h => absurd h (by decide)⟩
    | 6, hj => exact Or.inr ⟨by decide, hj, fun _ => by cases hj; simp [Value.category]⟩
    | 7, hj => exact Or.inl ⟨rfl, (Option.some.inj (Option.some.inj hj)).symm⟩
    | q + 8, hj => simp at hj
set_option maxRecDepth 100000 in
theorem inc_9_5_1_i {o0 o1 o2 o3 o6 o7 o8 : Option Value} {pv : Int32} {x : Int32} (hdg : decode cc pc = .ok (.iinc 5 1, 3)) (kk : R G l y cc 9 ret d mc ms Q (pc + 3) [o0, o1, o2, o3, (some (.int pv)), (some (.int (x + 1))), o6, o7, o8] st w k n) : R G l y cc 9 ret d mc ms Q pc [o0, o1, o2, o3, (some (.int pv)), (some (.int x)), o6, o7, o8] st w k n := by
  intro p e Rm s m args below meth c Qt C hret H locs ls hH hS hl
  have hm : ((5 : Nat), Value.int x) ∈ asL G [o0, o1, o2, o3, (some (.int pv)), (some (.int x)), o6, o7, o8] := asL_mem (v := .int x) rfl
  obtain ⟨kq, hkq⟩ := List.getElem?_of_mem hm
  refine lv_iinc (v := x + 1) C.1 C.2.1 hdg (hasL_as hl) hkq (by rfl) (by decide) rfl (fun ls' h' => kk p e Rm s m args below meth c Qt C hret H locs ls' hH hS (hasL_set1 (x := .int (x + 1)) h' ?_))
  intro j v hj
  match j, hj with
    | 0, hj => exact Or.inr ⟨by decide, hj, fun h => absurd h (by decide)⟩
    | 1, hj => exact Or.inr ⟨by decide, hj, fun h => absurd h (by decide)⟩
    | 2, hj => exact Or.inr ⟨by decide, hj, fun h => absurd h (by decide)⟩
    | 3, hj => exact Or.inr ⟨by decide, hj, fun h => absurd h (by decide)⟩
    | 4, hj => exact Or.inr ⟨by decide, hj, fun _ => by cases hj; simp [Value.category]⟩
    | 5, hj => exact Or.inl ⟨rfl, (Option.some.inj (Option.some.inj hj)).symm⟩
    | 6, hj => exact Or.inr ⟨by decide, hj, fun h => absurd h (by decide)⟩
    | 7, hj => exact Or.inr ⟨by decide, hj, fun h => absurd h (by decide)⟩
    | 8, hj => exact Or.inr ⟨by decide, hj, fun h => absurd h (by decide)⟩
    | q + 9, hj => simp at hj
set_option maxRecDepth 100000 in
theorem inc_9_7_1_i {o0 o1 o2 o3 o4 o5 o8 : Option Value} {pv : Int32} {x : Int32} (hdg : decode cc pc = .ok (.iinc 7 1, 3)) (kk : R G l y cc 9 ret d mc ms Q (pc + 3) [o0, o1, o2, o3, o4, o5, (some (.int pv)), (some (.int (x + 1))), o8] st w k n) : R G l y cc 9 ret d mc ms Q pc [o0, o1, o2, o3, o4, o5, (some (.int pv)), (some (.int x)), o8] st w k n := by
  intro p e Rm s m args below meth c Qt C hret H locs ls hH hS hl
  have hm : ((7 : Nat), Value.int x) ∈ asL G [o0, o1, o2, o3, o4, o5, (some (.int pv)), (some (.int x)), o8] := asL_mem (v := .int x) rfl
  obtain ⟨kq, hkq⟩ := List.getElem?_of_mem hm
  refine lv_iinc (v := x + 1) C.1 C.2.1 hdg (hasL_as hl) hkq (by rfl) (by decide) rfl (fun ls' h' => kk p e Rm s m args below meth c Qt C hret H locs ls' hH hS (hasL_set1 (x := .int (x + 1)) h' ?_))
  intro j v hj
  match j, hj with
    | 0, hj => exact Or.inr ⟨by decide, hj, fun h => absurd h (by decide)⟩
    | 1, hj => exact Or.inr ⟨by decide, hj, fun h => absurd h (by decide)⟩
    | 2, hj => exact Or.inr ⟨by decide, hj, fun h => absurd h (by decide)⟩
    | 3, hj => exact Or.inr ⟨by decide, hj, fun h => absurd h (by decide)⟩
    | 4, hj => exact Or.inr ⟨by decide, hj, fun h => absurd h (by decide)⟩
    | 5, hj => exact Or.inr ⟨by decide, hj, fun h => absurd h (by decide)⟩
    | 6, hj => exact Or.inr ⟨by decide, hj, fun _ => by cases hj; simp [Value.category]⟩
    | 7, hj => exact Or.inl ⟨rfl, (Option.some.inj (Option.some.inj hj)).symm⟩
    | 8, hj => exact Or.inr ⟨by decide, hj, fun h => absurd h (by decide)⟩
    | q + 9, hj => simp at hj
set_option maxRecDepth 100000 in
theorem inc_9_8_1_i {o0 o1 o2 o3 o4 o5 o6 : Option Value} {pv : Int32} {x : Int32} (hdg : decode cc pc = .ok (.iinc 8 1, 3)) (kk : R G l y cc 9 ret d mc ms Q (pc + 3) [o0, o1, o2, o3, o4, o5, o6, (some (.int pv)), (some (.int (x + 1)))] st w k n) : R G l y cc 9 ret d mc ms Q pc [o0, o1, o2, o3, o4, o5, o6, (some (.int pv)), (some (.int x))] st w k n := by
  intro p e Rm s m args below meth c Qt C hret H locs ls hH hS hl
  have hm : ((8 : Nat), Value.int x) ∈ asL G [o0, o1, o2, o3, o4, o5, o6, (some (.int pv)), (some (.int x))] := asL_mem (v := .int x) rfl
  obtain ⟨kq, hkq⟩ := List.getElem?_of_mem hm
  refine lv_iinc (v := x + 1) C.1 C.2.1 hdg (hasL_as hl) hkq (by rfl) (by decide) rfl (fun ls' h' => kk p e Rm s m args below meth c Qt C hret H locs ls' hH hS (hasL_set1 (x := .int (x + 1)) h' ?_))
  intro j v hj
  match j, hj with
    | 0, hj => exact Or.inr ⟨by decide, hj, fun h => absurd h (by decide)⟩
    | 1, hj => exact Or.inr ⟨by decide, hj, fun h => absurd h (by decide)⟩
    | 2, hj => exact Or.inr ⟨by decide, hj, fun h => absurd h (by decide)⟩
    | 3, hj => exact Or.inr ⟨by decide, hj, fun h => absurd h (by decide)⟩
    | 4, hj => exact Or.inr ⟨by decide, hj, fun h => absurd h (by decide)⟩
    | 5, hj => exact Or.inr ⟨by decide, hj, fun h => absurd h (by decide)⟩
    | 6, hj => exact Or.inr ⟨by decide, hj, fun h => absurd h (by decide)⟩
    | 7, hj => exact Or.inr ⟨by decide, hj, fun _ => by cases hj; simp [Value.category]⟩
    | 8, hj => exact Or.inl ⟨rfl, (Option.some.inj (Option.some.inj hj)).symm⟩
    | q + 9, hj => simp at hj
set_option maxRecDepth 100000 in
theorem st_1_0_i_x {o0 : Option Value} {x : Int32} (hdg : decode cc pc = .ok (.istore_n 0, 1)) (kk : R G l y cc 1 ret d mc ms Q (pc + 1) [(some (.int x))] st w k n) : R G l y cc 1 ret d mc ms Q pc [o0] (.int x :: st) w k n := by
  intro p e Rm s m args below meth c Qt C hret H locs ls hH hS hl
  refine lv_istore_n C.1 C.2.1 (x := x) hdg rfl (hasL_as hl) (by decide) rfl (fun ls' h' => kk p e Rm s m args below meth c Qt C hret H locs ls' hH hS (hasL_set1 (x := .int x) h' ?_))
  intro j v hj
  match j, hj with
    | 0, hj => exact Or.inl ⟨rfl, (Option.some.inj (Option.some.inj hj)).symm⟩
    | q + 1, hj => simp at hj
set_option maxRecDepth 100000 in
theorem st_10_3_i_i {o0 o1 o3 o4 o5 o6 o7 o8 o9 : Option Value} {pv : Int32} {x : Int32} (hdg : decode cc pc = .ok (.istore_n 3, 1)) (kk : R G l y cc 10 ret d mc ms Q (pc + 1) [o0, o1, (some (.int pv)), (some (.int x)), o4, o5, o6, o7, o8, o9] st w k n) : R G l y cc 10 ret d mc ms Q pc [o0, o1, (some (.int pv)), o3, o4, o5, o6, o7, o8, o9] (.int x :: st) w k n := by
  intro p e Rm s m args below meth c Qt C hret H locs ls hH hS hl
  refine lv_istore_n C.1 C.2.1 (x := x) hdg rfl (hasL_as hl) (by decide) rfl (fun ls' h' => kk p e Rm s m args below meth c Qt C hret H locs ls' hH hS (hasL_set1 (x := .int x) h' ?_))
  intro j v hj
  match j, hj with
    | 0, hj => exact Or.inr ⟨by decide, hj, fun h => absurd h (by decide)⟩
    | 1, hj => exact Or.inr ⟨by decide, hj, fun h => absurd h (by decide)⟩
    | 2, hj => exact Or.inr ⟨by decide, hj, fun _ => by cases hj; simp [Value.category]⟩
    | 3, hj => exact Or.inl ⟨rfl, (Option.some.inj (Option.some.inj hj)).symm⟩
    | 4, hj => exact Or.inr ⟨by decide, hj, fun h => absurd h (by decide)⟩
    | 5, hj => exact Or.inr ⟨by decide, hj, fun h => absurd h (by decide)⟩
    | 6, hj => exact Or.inr ⟨by decide, hj, fun h => absurd h (by decide)⟩
    | 7, hj => exact Or.inr ⟨by decide, hj, fun h => absurd h (by decide)⟩
    | 8, hj => exact Or.inr ⟨by decide, hj, fun h => absurd h (by decide)⟩
    | 9, hj => exact Or.inr ⟨by decide, hj, fun h => absurd h (by decide)⟩
    | q + 10, hj => simp at hj
set_option maxRecDepth 100000 in
theorem st_10_4_i_i {o0 o1 o2 o4 o5 o6 o7 o8 o9 : Option Value} {pv : Int32} {x : Int32} (hdg : decode cc pc = .ok (.istore 4, 2)) (kk : R G l y cc 10 ret d mc ms Q (pc + 2) [o0, o1, o2, (some (.int pv)), (some (.int x)), o5, o6, o7, o8, o9] st w k n) : R G l y cc 10 ret d mc ms Q pc [o0, o1, o2, (some (.int pv)), o4, o5, o6, o7, o8, o9] (.int x :: st) w k n := by
  intro p e Rm s m args below meth c Qt C hret H locs ls hH hS hl
  refine lv_istore C.1 C.2.1 (x := x) hdg (hasL_as hl) (by decide) rfl (fun ls' h' => kk p e Rm s m args below meth c Qt C hret H locs ls' hH hS (hasL_set1 (x := .int x) h' ?_))
  intro j v hj
  match j, hj with
    | 0, hj => exact Or.inr ⟨by decide, hj, fun h => absurd h (by decide)⟩
    | 1, hj => exact Or.inr ⟨by decide, hj, fun h => absurd h (by decide)⟩
    | 2, hj => exact Or.inr ⟨by decide, hj, fun h => absurd h (by decide)⟩
    | 3, hj => exact Or.inr ⟨by decide, hj, fun _ => by cases hj; simp [Value.category]⟩
    | 4, hj => exact Or.inl ⟨rfl, (Option.some.inj (Option.some.inj hj)).symm⟩
    | 5, hj => exact Or.inr ⟨by decide, hj, fun h => absurd h (by decide)⟩
    | 6, hj => exact Or.inr ⟨by decide, hj, fun h => absurd h (by decide)⟩
    | 7, hj => exact Or.inr ⟨by decide, hj, fun h => absurd h (by decide)⟩
    | 8, hj => exact Or.inr ⟨by decide, hj, fun h => absurd h (by decide)⟩
    | 9, hj => exact Or.inr ⟨by decide, hj, fun h => absurd h (by decide)⟩
    | q + 10, hj => simp at hj
set_option maxRecDepth 100000 in
theorem st_10_5_i_i {o0 o1 o2 o3 o5 o6 o7 o8 o9 : Option Value} {pv : Int32} {x : Int32} (hdg : decode cc pc = .ok (.istore 5, 2)) (kk : R G l y cc 10 ret d mc ms Q (pc + 2) [o0, o1, o2, o3, (some (.int pv)), (some (.int x)), o6, o7, o8, o9] st w k n) : R G l y cc 10 ret d mc ms Q pc [o0, o1, o2, o3, (some (.int pv)), o5, o6, o7, o8, o9] (.int x :: st) w k n := by
  intro p e Rm s m args below meth c Qt C hret H locs ls hH hS hl
  refine lv_istore C.1 C.2.1 (x := x) hdg (hasL_as hl) (by decide) rfl (fun ls' h' => kk p e Rm s m args below meth c Qt C hret H locs ls' hH hS (hasL_set1 (x := .int x) h' ?_))
  intro j v hj
  match j, hj with
    | 0, hj => exact Or.inr ⟨by decide, hj, fun h => absurd h (by decide)⟩
    | 1, hj => exact Or.inr ⟨by decide, hj, fun h => absurd h (by decide)⟩
    | 2, hj => exact Or.inr ⟨by decide, hj, fun h => absurd h (by decide)⟩
    | 3, hj => exact Or.inr ⟨by decide, hj, fun h => absurd h (by decide)⟩
    | 4, hj => exact Or.inr ⟨by decide, hj, fun _ => by cases hj; simp [Value.category]⟩
    | 5, hj => exact Or.inl ⟨rfl, (Option.some.inj (Option.some.inj hj)).symm⟩
    | 6, hj => exact Or.inr ⟨by decide, hj, fun h => absurd h (by decide)⟩
    | 7, hj => exact Or.inr ⟨by decide, hj, fun h => absurd h (by decide)⟩
    | 8, hj => exact Or.inr ⟨by decide, hj, fun h => absurd h (by decide)⟩
    | 9, hj => exact Or.inr ⟨by decide, hj, fun h => absurd h (by decide)⟩
    | q + 10, hj => simp at hj
set_option maxRecDepth 100000 in
theorem st_10_6_i_i {o0 o1 o2 o3 o4 o6 o7 o8 o9 : Option Value} {pv : Int32} {x : Int32} (hdg : decode cc pc = .ok (.istore 6, 2)) (kk : R G l y cc 10 ret d mc ms Q (pc + 2) [o0, o1, o2, o3, o4, (some (.int pv)), (some (.int x)), o7, o8, o9] st w k n) : R G l y cc 10 ret d mc ms Q pc [o0, o1, o2, o3, o4, (some (.int pv)), o6, o7, o8, o9] (.int x :: st) w k n := by
  intro p e Rm s m args below meth c Qt C hret H locs ls hH hS hl
  refine lv_istore C.1 C.2.1 (x := x) hdg (hasL_as hl) (by decide) rfl (fun ls' h' => kk p e Rm s m args below meth c Qt C hret H locs ls' hH hS (hasL_set1 (x := .int x) h' ?_))
  intro j v hj
  match j, hj with
    | 0, hj => exact Or.inr ⟨by decide, hj, fun h => absurd h (by decide)⟩
    | 1, hj => exact Or.inr ⟨by decide, hj, fun h => absurd h (by decide)⟩
    | 2, hj => exact Or.inr ⟨by decide, hj, fun h => absurd h (by decide)⟩
    | 3, hj => exact Or.inr ⟨by decide, hj, fun h => absurd h (by decide)⟩
    | 4, hj => exact Or.inr ⟨by decide, hj, fun h => absurd h (by decide)⟩
    | 5, hj => exact Or.inr ⟨by decide, hj, fun _ => by cases hj; simp [Value.category]⟩
    | 6, hj => exact Or.inl ⟨rfl, (Option.some.inj (Option.some.inj hj)).symm⟩
    | 7, hj => exact Or.inr ⟨by decide, hj, fun h => absurd h (by decide)⟩
    | 8, hj => exact Or.inr ⟨by decide, hj, fun h => absurd h (by decide)⟩
    | 9, hj => exact Or.inr ⟨by decide, hj, fun h => absurd h (by decide)⟩
    | q + 10, hj => simp at hj
set_option maxRecDepth 100000 in
theorem st_10_7_i_i {o0 o1 o2 o3 o4 o5 o7 o8 o9 : Option Value} {pv : Int32} {x : Int32} (hdg : decode cc pc = .ok (.istore 7, 2)) (kk : R G l y cc 10 ret d mc ms Q (pc + 2) [o0, o1, o2, o3, o4, o5, (some (.int pv)), (some (.int x)), o8, o9] st w k n) : R G l y cc 10 ret d mc ms Q pc [o0, o1, o2, o3, o4, o5, (some (.int pv)), o7, o8, o9] (.int x :: st) w k n := by
  intro p e Rm s m args below meth c Qt C hret H locs ls hH hS hl
  refine lv_istore C.1 C.2.1 (x := x) hdg (hasL_as hl) (by decide) rfl (fun ls' h' => kk p e Rm s m args below meth c Qt C hret H locs ls' hH hS (hasL_set1 (x := .int x) h' ?_))
  intro j v hj
  match j, hj with
    | 0, hj => exact Or.inr ⟨by decide, hj, fun h => absurd h (by decide)⟩
    | 1, hj => exact Or.inr ⟨by decide, hj, fun h => absurd h (by decide)⟩
    | 2, hj => exact Or.inr ⟨by decide, hj, fun h => absurd h (by decide)⟩
    | 3, hj => exact Or.inr ⟨by decide, hj, fun h => absurd h (by decide)⟩
    | 4, hj => exact Or.inr ⟨by decide, hj, fun h => absurd h (by decide)⟩
    | 5, hj => exact Or.inr ⟨by decide, hj, fun h => absurd h (by decide)⟩
    | 6, hj => exact Or.inr ⟨by decide, hj, fun _ => by cases hj; simp [Value.category]⟩
    | 7, hj => exact Or.inl ⟨rfl, (Option.some.inj (Option.some.inj hj)).symm⟩
    | 8, hj => exact Or.inr ⟨by decide, hj, fun h => absurd h (by decide)⟩
    | 9, hj => exact Or.inr ⟨by decide, hj, fun h => absurd h (by decide)⟩
    | q + 10, hj => simp at hj
set_option maxRecDepth 100000 in
theorem st_10_8_i_i {o0 o1 o2 o3 o4 o5 o6 o8 o9 : Option Value} {pv : Int32} {x : Int32} (hdg : decode cc pc = .ok (.istore 8, 2)) (kk : R G l y cc 10 ret d mc ms Q (pc + 2) [o0, o1, o2, o3, o4, o5, o6, (some (.int pv)), (some (.int x)), o9] st w k n) : R G l y cc 10 ret d mc ms Q pc [o0, o1, o2, o3, o4, o5, o6, (some (.int pv)), o8, o9] (.int x :: st) w k n := by
  intro p e Rm s m args below meth c Qt C hret H locs ls hH hS hl
  refine lv_istore C.1 C.2.1 (x := x) hdg (hasL_as hl) (by decide) rfl (fun ls' h' => kk p e Rm s m args below meth c Qt C hret H locs ls' hH hS (hasL_set1 (x := .int x) h' ?_))
  intro j v hj
  match j, hj with
    | 0, hj => exact Or.inr ⟨by decide, hj, fun h => absurd h (by decide)⟩
    | 1, hj => exact Or.inr ⟨by decide, hj, fun h => absurd h (by decide)⟩
    | 2, hj => exact Or.inr ⟨by decide, hj, fun h => absurd h (by decide)⟩
    | 3, hj => exact Or.inr ⟨by decide, hj, fun h => absurd h (by decide)⟩
    | 4, hj => exact Or.inr ⟨by decide, hj, fun h => absurd h (by decide)⟩
    | 5, hj => exact Or.inr ⟨by decide, hj, fun h => absurd h (by decide)⟩
    | 6, hj => exact Or.inr ⟨by decide, hj, fun h => absurd h (by decide)⟩
    | 7, hj => exact Or.inr ⟨by decide, hj, fun _ => by cases hj; simp [Value.category]⟩
    | 8, hj => exact Or.inl ⟨rfl, (Option.some.inj (Option.some.inj hj)).symm⟩
    | 9, hj => exact Or.inr ⟨by decide, hj, fun h => absurd h (by decide)⟩
    | q + 10, hj => simp at hj
set_option maxRecDepth 100000 in
theorem st_10_9_i_i {o0 o1 o2 o3 o4 o5 o6 o7 o9 : Option Value} {pv : Int32} {x : Int32} (hdg : decode cc pc = .ok (.istore 9, 2)) (kk : R G l y cc 10 ret d mc ms Q (pc + 2) [o0, o1, o2, o3, o4, o5, o6, o7, (some (.int pv)), (some (.int x))] st w k n) : R G l y cc 10 ret d mc ms Q pc [o0, o1, o2, o3, o4, o5, o6, o7, (some (.int pv)), o9] (.int x :: st) w k n := by
  intro p e Rm s m args below meth c Qt C hret H locs ls hH hS hl
  refine lv_istore C.1 C.2.1 (x := x) hdg (hasL_as hl) (by decide) rfl (fun ls' h' => kk p e Rm s m args below meth c Qt C hret H locs ls' hH hS (hasL_set1 (x := .int x) h' ?_))
  intro j v hj
  match j, hj with
    | 0, hj => exact Or.inr ⟨by decide, hj, fun h => absurd h (by decide)⟩
    | 1, hj => exact Or.inr ⟨by decide, hj, fun h => absurd h (by decide)⟩
    | 2, hj => exact Or.inr ⟨by decide, hj, fun h => absurd h (by decide)⟩
    | 3, hj => exact Or.inr ⟨by decide, hj, fun h => absurd h (by decide)⟩
    | 4, hj => exact Or.inr ⟨by decide, hj, fun h => absurd h (by decide)⟩
    | 5, hj => exact Or.inr ⟨by decide, hj, fun h => absurd h (by decide)⟩
    | 6, hj => exact Or.inr ⟨by decide, hj, fun h => absurd h (by decide)⟩
    | 7, hj => exact Or.inr ⟨by decide, hj, fun h => absurd h (by decide)⟩
    | 8, hj => exact Or.inr ⟨by decide, hj, fun _ => by cases hj; simp [Value.category]⟩
    | 9, hj => exact Or.inl ⟨rfl, (Option.some.inj (Option.some.inj hj)).symm⟩
    | q + 10, hj => simp at hj
set_option maxRecDepth 100000 in
theorem st_11_10_i_i {o0 o1 o2 o3 o4 o5 o6 o7 o8 o10 : Option Value} {pv : Int32} {x : Int32} (hdg : decode cc pc = .ok (.istore 10, 2)) (kk : R G l y cc 11 ret d mc ms Q (pc + 2) [o0, o1, o2, o3, o4, o5, o6, o7, o8, (some (.int pv)), (some (.int x))] st w k n) : R G l y cc 11 ret d mc ms Q pc [o0, o1, o2, o3, o4, o5, o6, o7, o8, (some (.int pv)), o10] (.int x :: st) w k n := by
  intro p e Rm s m args below meth c Qt C hret H locs ls hH hS hl
  refine lv_istore C.1 C.2.1 (x := x) hdg (hasL_as hl) (by decide) rfl (fun ls' h' => kk p e Rm s m args below meth c Qt C hret H locs ls' hH hS (hasL_set1 (x := .int x) h' ?_))
  intro j v hj
  match j, hj with
    | 0, hj => exact Or.inr ⟨by decide, hj, fun h => absurd h (by decide)⟩
    | 1, hj => exact Or.inr ⟨by decide, hj, fun h => absurd h (by decide)⟩
    | 2, hj => exact Or.inr ⟨by decide, hj, fun h => absurd h (by decide)⟩
    | 3, hj => exact Or.inr ⟨by decide, hj, fun h => absurd h (by decide)⟩
    | 4, hj => exact Or.inr ⟨by decide, hj, fun h => absurd h (by decide)⟩
    | 5, hj => exact Or.inr ⟨by decide, hj, fun h => absurd h (by decide)⟩
    | 6, hj => exact Or.inr ⟨by decide, hj, fun h => absurd h (by decide)⟩
    | 7, hj => exact Or.inr ⟨by decide, hj, fun h => absurd h (by decide)⟩
    | 8, hj => exact Or.inr ⟨by decide, hj, fun h => absurd h (by decide)⟩
    | 9, hj => exact Or.inr ⟨by decide, hj, fun _ => by cases hj; simp [Value.category]⟩
    | 10, hj => exact Or.inl ⟨rfl, (Option.some.inj (Option.some.inj hj)).symm⟩
    | q + 11, hj => simp at hj
set_option maxRecDepth 100000 in
theorem st_11_10_i_n {o0 o1 o2 o3 o4 o5 o6 o7 o8 o10 : Option Value} {x : Int32} (hdg : decode cc pc = .ok (.istore 10, 2)) (kk : R G l y cc 11 ret d mc ms Q (pc + 2) [o0, o1, o2, o3, o4, o5, o6, o7, o8, none, (some (.int x))] st w k n) : R G l y cc 11 ret d mc ms Q pc [o0, o1, o2, o3, o4, o5, o6, o7, o8, none, o10] (.int x :: st) w k n := by
  intro p e Rm s m args below meth c Qt C hret H locs ls hH hS hl
  refine lv_istore C.1 C.2.1 (x := x) hdg (hasL_as hl) (by decide) rfl (fun ls' h' => kk p e Rm s m args below meth c Qt C hret H locs ls' hH hS (hasL_set1 (x := .int x) h' ?_))
  intro j v hj
  match j, hj with
    | 0, hj => exact Or.inr ⟨by decide, hj, fun h => absurd h (by decide)⟩
    | 1, hj => exact Or.inr ⟨by decide, hj, fun h => absurd h (by decide)⟩
    | 2, hj => exact Or.inr ⟨by decide, hj, fun h => absurd h (by decide)⟩
    | 3, hj => exact Or.inr ⟨by decide, hj, fun h => absurd h (by decide)⟩
    | 4, hj => exact Or.inr ⟨by decide, hj, fun h => absurd h (by decide)⟩
    | 5, hj => exact Or.inr ⟨by decide, hj, fun h => absurd h (by decide)⟩
    | 6, hj => exact Or.inr ⟨by decide, hj, fun h => absurd h (by decide)⟩
    | 7, hj => exact Or.inr ⟨by decide, hj, fun h => absurd h (by decide)⟩
    | 8, hj => exact Or.inr ⟨by decide, hj, fun h => absurd h (by decide)⟩
    | 9, hj => cases hj
    | 10, hj => exact Or.inl ⟨rfl, (Option.some.inj (Option.some.inj hj)).symm⟩
    | q + 11, hj => simp at hj
set_option maxRecDepth 100000 in
theorem st_11_3_i_i {o0 o1 o3 o4 o5 o6 o7 o8 o9 o10 : Option Value} {pv : Int32} {x : Int32} (hdg : decode cc pc = .ok (.istore_n 3, 1)) (kk : R G l y cc 11 ret d mc ms Q (pc + 1) [o0, o1, (some (.int pv)), (some (.int x)), o4, o5, o6, o7, o8, o9, o10] st w k n) : R G l y cc 11 ret d mc ms Q pc [o0, o1, (some (.int pv)), o3, o4, o5, o6, o7, o8, o9, o10] (.int x :: st) w k n := by
  intro p e Rm s m args below meth c Qt C hret H locs ls hH hS hl
  refine lv_istore_n C.1 C.2.1 (x := x) hdg rfl (hasL_as hl) (by decide) rfl (fun ls' h' => kk p e Rm s m args below meth c Qt C hret H locs ls' hH hS (hasL_set1 (x := .int x) h' ?_))
  intro j v hj
  match j, hj with
    | 0, hj => exact Or.inr ⟨by decide, hj, fun h => absurd h (by decide)⟩
    | 1, hj => exact Or.inr ⟨by decide, hj, fun h => absurd h (by decide)⟩
    | 2, hj => exact Or.inr ⟨by decide, hj, fun _ => by cases hj; simp [Value.category]⟩
    | 3, hj => exact Or.inl ⟨rfl, (Option.some.inj (Option.some.inj hj)).symm⟩
    | 4, hj => exact Or.inr ⟨by decide, hj, fun h => absurd h (by decide)⟩
    | 5, hj => exact Or.inr ⟨by decide, hj, fun h => absurd h (by decide)⟩
    | 6, hj => exact Or.inr ⟨by decide, hj, fun h => absurd h (by decide)⟩
    | 7, hj => exact Or.inr ⟨by decide, hj, fun h => absurd h (by decide)⟩
    | 8, hj => exact Or.inr ⟨by decide, hj, fun h => absurd h (by decide)⟩
    | 9, hj => exact Or.inr ⟨by decide, hj, fun h => absurd h (by decide)⟩
    | 10, hj => exact Or.inr ⟨by decide, hj, fun h => absurd h (by decide)⟩
    | q + 11, hj => simp at hj
set_option maxRecDepth 100000 in
theorem st_11_4_i_i {o0 o1 o2 o4 o5 o6 o7 o8 o9 o10 : Option Value} {pv : Int32} {x : Int32} (hdg : decode cc pc = .ok (.istore 4, 2)) (kk : R G l y cc 11 ret d mc ms Q (pc + 2) [o0, o1, o2, (some (.int pv)), (some (.int x)), o5, o6, o7, o8, o9, o10] st w k n) : R G l y cc 11 ret d mc ms Q pc [o0, o1, o2, (some (.int pv)), o4, o5, o6, o7, o8, o9, o10] (.int x :: st) w k n := by
  intro p e Rm s m args below meth c Qt C hret H locs ls hH hS hl
  refine lv_istore C.1 C.2.1 (x := x) hdg (hasL_as hl) (by decide) rfl (fun ls' h' => kk p e Rm s m args below meth c Qt C hret H locs ls' hH hS (hasL_set1 (x := .int x) h' ?_))
  intro j v hj
  match j, hj with
    | 0, hj => exact Or.inr ⟨by decide, hj, fun h => absurd h (by decide)⟩
    | 1, hj => exact Or.inr ⟨by decide, hj, fun h => absurd h (by decide)⟩
    | 2, hj => exact Or.inr ⟨by decide, hj, fun h => absurd h (by decide)⟩
    | 3, hj => exact Or.inr ⟨by decide, hj, fun _ => by cases hj; simp [Value.category]⟩
    | 4, hj => exact Or.inl ⟨rfl, (Option.some.inj (Option.some.inj hj)).symm⟩
    | 5, hj => exact Or.inr ⟨by decide, hj, fun h => absurd h (by decide)⟩
    | 6, hj => exact Or.inr ⟨by decide, hj, fun h => absurd h (by decide)⟩
    | 7, hj => exact Or.inr ⟨by decide, hj, fun h => absurd h (by decide)⟩
    | 8, hj => exact Or.inr ⟨by decide, hj, fun h => absurd h (by decide)⟩
    | 9, hj => exact Or.inr ⟨by decide, hj, fun h => absurd h (by decide)⟩
    | 10, hj => exact Or.inr ⟨by decide, hj, fun h => absurd h (by decide)⟩
    | q + 11, hj => simp at hj
set_option maxRecDepth 100000 in
theorem st_11_4_l_i {o0 o1 o2 o4 o5 o6 o7 o8 o9 o10 : Option Value} {pv : Int32} {x : Int64} (hdg : decode cc pc = .ok (.lstore 4, 2)) (kk : R G l y cc 11 ret d mc ms Q (pc + 2) [o0, o1, o2, (some (.int pv)), (some (.long x)), none, o6, o7, o8, o9, o10] st w k n) : R G l y cc 11 ret d mc ms Q pc [o0, o1, o2, (some (.int pv)), o4, o5, o6, o7, o8, o9, o10] (.long x :: st) w k n := by
  intro p e Rm s m args below meth c Qt C hret H locs ls hH hS hl
  refine lv_lstore C.1 C.2.1 (x := x) hdg (hasL_as hl) (by decide) rfl (fun ls' h' => kk p e Rm s m args below meth c Qt C hret H locs ls' hH hS (hasL_set2 (x := .long x) h' ?_))
  intro j v hj
  match j, hj with
    | 0, hj => exact Or.inr ⟨by decide, by decide, hj, fun h => absurd h (by decide)⟩
    | 1, hj => exact Or.inr ⟨by decide, by decide, hj, fun h => absurd h (by decide)⟩
    | 2, hj => exact Or.inr ⟨by decide, by decide, hj, fun h => absurd h (by decide)⟩
    | 3, hj => exact Or.inr ⟨by decide, by decide, hj, fun _ => by cases hj; simp [Value.category]⟩
    | 4, hj => exact Or.inl ⟨rfl, (Option.some.inj (Option.some.inj hj)).symm⟩
    | 5, hj => cases hj
    | 6, hj => exact Or.inr ⟨by decide, by decide, hj, fun h => absurd h (by decide)⟩
    | 7, hj => exact Or.inr ⟨by decide, by decide, hj, fun h => absurd h (by decide)⟩
    | 8, hj => exact Or.inr ⟨by decide, by decide, hj, fun h => absurd h (by decide)⟩
    | 9, hj => exact Or.inr ⟨by decide, by decide, hj, fun h => absurd h (by decide)⟩
    | 10, hj => exact Or.inr ⟨by decide, by decide, hj, fun h => absurd h (by decide)⟩
    | q + 11, hj => simp at hj
set_option maxRecDepth 100000 in
theorem st_11_5_i_i {o0 o1 o2 o3 o5 o6 o7 o8 o9 o10 : Option Value} {pv : Int32} {x : Int32} (hdg : decode cc pc = .ok (.istore 5, 2)) (kk : R G l y cc 11 ret d mc ms Q (pc + 2) [o0, o1, o2, o3, (some (.int pv)), (some (.int x)), o6, o7, o8, o9, o10] st w k n) : R G l y cc 11 ret d mc ms Q pc [o0, o1, o2, o3, (some (.int pv)), o5, o6, o7, o8, o9, o10] (.int x :: st) w k n := by
  intro p e Rm s m args below meth c Qt C hret H locs ls hH hS hl
  refine lv_istore C.1 C.2.1 (x := x) hdg (hasL_as hl) (by decide) rfl (fun ls' h' => kk p e Rm s m args below meth c Qt C hret H locs ls' hH hS (hasL_set1 (x := .int x) h' ?_))
  intro j v hj
  match j, hj with
    | 0, hj => exact Or.inr ⟨by decide, hj, fun h => absurd h (by decide)⟩
    | 1, hj => exact Or.inr ⟨by decide, hj, fun h => absurd h (by decide)⟩
    | 2, hj => exact Or.inr ⟨by decide, hj, fun h => absurd h (by decide)⟩
    | 3, hj => exact Or.inr ⟨by decide, hj, fun h => absurd h (by decide)⟩
    | 4, hj => exact Or.inr ⟨by decide, hj, fun _ => by cases hj; simp [Value.category]⟩
    | 5, hj => exact Or.inl ⟨rfl, (Option.some.inj (Option.some.inj hj)).symm⟩
    | 6, hj => exact Or.inr ⟨by decide, hj, fun h => absurd h (by decide)⟩
    | 7, hj => exact Or.inr ⟨by decide, hj, fun h => absurd h (by decide)⟩
    | 8, hj => exact Or.inr ⟨by decide, hj, fun h => absurd h (by decide)⟩
    | 9, hj => exact Or.inr ⟨by decide, hj, fun h => absurd h (by decide)⟩
    | 10, hj => exact Or.inr ⟨by decide, hj, fun h => absurd h (by decide)⟩
    | q + 11, hj => simp at hj
set_option maxRecDepth 100000 in
theorem st_11_6_i_i {o0 o1 o2 o3 o4 o6 o7 o8 o9 o10 : Option Value} {pv : Int32} {x : Int32} (hdg : decode cc pc = .ok (.istore 6, 2)) (kk : R G l y cc 11 ret d mc ms Q (pc + 2) [o0, o1, o2, o3, o4, (some (.int pv)), (some (.int x)), o7, o8, o9, o10] st w k n) : R G l y cc 11 ret d mc ms Q pc [o0, o1, o2, o3, o4, (some (.int pv)), o6, o7, o8, o9, o10] (.int x :: st) w k n := by
  intro p e Rm s m args below meth c Qt C hret H locs ls hH hS hl
  refine lv_istore C.1 C.2.1 (x := x) hdg (hasL_as hl) (by decide) rfl (fun ls' h' => kk p e Rm s m args below meth c Qt C hret H locs ls' hH hS (hasL_set1 (x := .int x) h' ?_))
  intro j v hj
  match j, hj with
    | 0, hj => exact Or.inr ⟨by decide, hj, fun h => absurd h (by decide)⟩
    | 1, hj => exact Or.inr ⟨by decide, hj, fun h => absurd h (by decide)⟩
    | 2, hj => exact Or.inr ⟨by decide, hj, fun h => absurd h (by decide)⟩
    | 3, hj => exact Or.inr ⟨by decide, hj, fun h => absurd h (by decide)⟩
    | 4, hj => exact Or.inr ⟨by decide, hj, fun h => absurd h (by decide)⟩
    | 5, hj => exact Or.inr ⟨by decide, hj, fun _ => by cases hj; simp [Value.category]⟩
    | 6, hj => exact Or.inl ⟨rfl, (Option.some.inj (Option.some.inj hj)).symm⟩
    | 7, hj => exact Or.inr ⟨by decide, hj, fun h => absurd h (by decide)⟩
    | 8, hj => exact Or.inr ⟨by decide, hj, fun h => absurd h (by decide)⟩
    | 9, hj => exact Or.inr ⟨by decide, hj, fun h => absurd h (by decide)⟩
    | 10, hj => exact Or.inr ⟨by decide, hj, fun h => absurd h (by decide)⟩
    | q + 11, hj => simp at hj
set_option maxRecDepth 100000 in
theorem st_11_6_i_n {o0 o1 o2 o3 o4 o6 o7 o8 o9 o10 : Option Value} {x : Int32} (hdg : decode cc pc = .ok (.istore 6, 2)) (kk : R G l y cc 11 ret d mc ms Q (pc + 2) [o0, o1, o2, o3, o4, none, (some (.int x)), o7, o8, o9, o10] st w k n) : R G l y cc 11 ret d mc ms Q pc [o0, o1, o2, o3, o4, none, o6, o7, o8, o9, o10] (.int x :: st) w k n := by
  intro p e Rm s m args below meth c Qt C hret H locs ls hH hS hl
  refine lv_istore C.1 C.2.1 (x := x) hdg (hasL_as hl) (by decide) rfl (fun ls' h' => kk p e Rm s m args below meth c Qt C hret H locs ls' hH hS (hasL_set1 (x := .int x) h' ?_))
  intro j v hj
  match j, hj with
    | 0, hj => exact Or.inr ⟨by decide, hj, fun h => absurd h (by decide)⟩
    | 1, hj => exact Or.inr ⟨by decide, hj, fun h => absurd h (by decide)⟩
    | 2, hj => exact Or.inr ⟨by decide, hj, fun h => absurd h (by decide)⟩
    | 3, hj => exact Or.inr ⟨by decide, hj, fun h => absurd h (by decide)⟩
    | 4, hj => exact Or.inr ⟨by decide, hj, fun h => absurd h (by decide)⟩
    | 5, hj => cases hj
    | 6, hj => exact Or.inl ⟨rfl, (Option.some.inj (Option.some.inj hj)).symm⟩
    | 7, hj => exact Or.inr ⟨by decide, hj, fun h => absurd h (by decide)⟩
    | 8, hj => exact Or.inr ⟨by decide, hj, fun h => absurd h (by decide)⟩
    | 9, hj => exact Or.inr ⟨by decide, hj, fun h => absurd h (by decide)⟩
    | 10, hj => exact Or.inr ⟨by decide, hj, fun h => absurd h (by decide)⟩
    | q + 11, hj => simp at hj
set_option maxRecDepth 100000 in
theorem st_11_6_l_i {o0 o1 o2 o3 o4 o6 o7 o8 o9 o10 : Option Value} {pv : Int32} {x : Int64} (hdg : decode cc pc = .ok (.lstore 6, 2)) (kk : R G l y cc 11 ret d mc ms Q (pc + 2) [o0, o1, o2, o3, o4, (some (.int pv)), (some (.long x)), none, o8, o9, o10] st w k n) : R G l y cc 11 ret d mc ms Q pc [o0, o1, o2, o3, o4, (some (.int pv)), o6, o7, o8, o9, o10] (.long x :: st) w k n := by
  intro p e Rm s m args below meth c Qt C hret H locs ls hH hS hl
  refine lv_lstore C.1 C.2.1 (x := x) hdg (hasL_as hl) (by decide) rfl (fun ls' h' => kk p e Rm s m args below meth c Qt C hret H locs ls' hH hS (hasL_set2 (x := .long x) h' ?_))
  intro j v hj
  match j, hj with
    | 0, hj => exact Or.inr ⟨by decide, by decide, hj, fun h => absurd h (by decide)⟩
    | 1, hj => exact Or.inr ⟨by decide, by decide, hj, fun h => absurd h (by decide)⟩
    | 2, hj => exact Or.inr ⟨by decide, by decide, hj, fun h => absurd h (by decide)⟩
    | 3, hj => exact Or.inr ⟨by decide, by decide, hj, fun h => absurd h (by decide)⟩
    | 4, hj => exact Or.inr ⟨by decide, by decide, hj, fun h => absurd h (by decide)⟩
    | 5, hj => exact Or.inr ⟨by decide, by decide, hj, fun _ => by cases hj; simp [Value.category]⟩
    | 6, hj => exact Or.inl ⟨rfl, (Option.some.inj (Option.some.inj hj)).symm⟩
    | 7, hj => cases hj
    | 8, hj => exact Or.inr ⟨by decide, by decide, hj, fun h => absurd h (by decide)⟩
    | 9, hj => exact Or.inr ⟨by decide, by decide, hj, fun h => absurd h (by decide)⟩
    | 10, hj => exact Or.inr ⟨by decide, by decide, hj, fun h => absurd h (by decide)⟩
    | q + 11, hj => simp at hj
set_option maxRecDepth 100000 in
theorem st_11_7_i_i {o0 o1 o2 o3 o4 o5 o7 o8 o9 o10 : Option Value} {pv : Int32} {x : Int32} (hdg : decode cc pc = .ok (.istore 7, 2)) (kk : R G l y cc 11 ret d mc ms Q (pc + 2) [o0, o1, o2, o3, o4, o5, (some (.int pv)), (some (.int x)), o8, o9, o10] st w k n) : R G l y cc 11 ret d mc ms Q pc [o0, o1, o2, o3, o4, o5, (some (.int pv)), o7, o8, o9, o10] (.int x :: st) w k n := by
  intro p e Rm s m args below meth c Qt C hret H locs ls hH hS hl
  refine lv_istore C.1 C.2.1 (x := x) hdg (hasL_as hl) (by decide) rfl (fun ls' h' => kk p e Rm s m args below meth c Qt C hret H locs ls' hH hS (hasL_set1 (x := .int x) h' ?_))
  intro j v hj
  match j, hj with
    | 0, hj => exact Or.inr ⟨by decide, hj, fun h => absurd h (by decide)⟩
    | 1, hj => exact Or.inr ⟨by decide, hj, fun h => absurd h (by decide)⟩
    | 2, hj => exact Or.inr ⟨by decide, hj, fun h => absurd h (by decide)⟩
    | 3, hj => exact Or.inr ⟨by decide, hj, fun h => absurd h (by decide)⟩
    | 4, hj => exact Or.inr ⟨by decide, hj, fun h => absurd h (by decide)⟩
    | 5, hj => exact Or.inr ⟨by decide, hj, fun h => absurd h (by decide)⟩
    | 6, hj => exact Or.inr ⟨by decide, hj, fun _ => by cases hj; simp [Value.category]⟩
    | 7, hj => exact Or.inl ⟨rfl, (Option.some.inj (Option.some.inj hj)).symm⟩
    | 8, hj => exact Or.inr ⟨by decide, hj, fun h => absurd h (by decide)⟩
    | 9, hj => exact Or.inr ⟨by decide, hj, fun h => absurd h (by decide)⟩
    | 10, hj => exact Or.inr ⟨by decide, hj, fun h => absurd h (by decide)⟩
    | q + 11, hj => simp at hj
set_option maxRecDepth 100000 in
theorem st_11_8_i_i {o0 o1 o2 o3 o4 o5 o6 o8 o9 o10 : Option Value} {pv : Int32} {x : Int32} (hdg : decode cc pc = .ok (.istore 8, 2)) (kk : R G l y cc 11 ret d mc ms Q (pc + 2) [o0, o1, o2, o3, o4, o5, o6, (some (.int pv)), (some (.int x)), o9, o10] st w k n) : R G l y cc 11 ret d mc ms Q pc [o0, o1, o2, o3, o4, o5, o6, (some (.int pv)), o8, o9, o10] (.int x :: st) w k n := by
  intro p e Rm s m args below meth c Qt C hret H locs ls hH hS hl
  refine lv_istore C.1 C.2.1 (x := x) hdg (hasL_as hl) (by decide) rfl (fun ls' h' => kk p e Rm s m args below meth c Qt C hret H locs ls' hH hS (hasL_set1 (x := .int x) h' ?_))
  intro j v hj
  match j, hj with
    | 0, hj => exact Or.inr ⟨by decide, hj, fun h => absurd h (by decide)⟩
    | 1, hj => exact Or.inr ⟨by decide, hj, fun h => absurd h (by decide)⟩
    | 2, hj => exact Or.inr ⟨by decide, hj, fun h => absurd h (by decide)⟩
    | 3, hj => exact Or.inr ⟨by decide, hj, fun h => absurd h (by decide)⟩
    | 4, hj => exact Or.inr ⟨by decide, hj, fun h => absurd h (by decide)⟩
    | 5, hj => exact Or.inr ⟨by decide, hj, fun h => absurd h (by decide)⟩
    | 6, hj => exact Or.inr ⟨by decide, hj, fun h => absurd h (by decide)⟩
    | 7, hj => exact Or.inr ⟨by decide, hj, fun _ => by cases hj; simp [Value.category]⟩
    | 8, hj => exact Or.inl ⟨rfl, (Option.some.inj (Option.some.inj hj)).symm⟩
    | 9, hj => exact Or.inr ⟨by decide, hj, fun h => absurd h (by decide)⟩
    | 10, hj => exact Or.inr ⟨by decide, hj, fun h => absurd h (by decide)⟩
    | q + 11, hj => simp at hj
set_option maxRecDepth 100000 in
theorem st_11_8_l_i {o0 o1 o2 o3 o4 o5 o6 o8 o9 o10 : Option Value} {pv : Int32} {x : Int64} (hdg : decode cc pc = .ok (.lstore 8, 2)) (kk : R G l y cc 11 ret d mc ms Q (pc + 2) [o0, o1, o2, o3, o4, o5, o6, (some (.int pv)), (some (.long x)), none, o10] st w k n) : R G l y cc 11 ret d mc ms Q pc [o0, o1, o2, o3, o4, o5, o6, (some (.int pv)), o8, o9, o10] (.long x :: st) w k n := by
  intro p e Rm s m args below meth c Qt C hret H locs ls hH hS hl
  refine lv_lstore C.1 C.2.1 (x := x) hdg (hasL_as hl) (by decide) rfl (fun ls' h' => kk p e Rm s m args below meth c Qt C hret H locs ls' hH hS (hasL_set2 (x := .long x) h' ?_))
  intro j v hj
  match j, hj with
    | 0, hj => exact Or.inr ⟨by decide, by decide, hj, fun h => absurd h (by decide)⟩
    | 1, hj => exact Or.inr ⟨by decide, by decide, hj, fun h => absurd h (by decide)⟩
    | 2, hj => exact Or.inr ⟨by decide, by decide, hj, fun h => absurd h (by decide)⟩
    | 3, hj => exact Or.inr ⟨by decide, by decide, hj, fun h => absurd h (by decide)⟩
    | 4, hj => exact Or.inr ⟨by decide, by decide, hj, fun h => absurd h (by decide)⟩
    | 5, hj => exact Or.inr ⟨by decide, by decide, hj, fun h => absurd h (by decide)⟩
    | 6, hj => exact Or.inr ⟨by decide, by decide, hj, fun h => absurd h (by decide)⟩
    | 7, hj => exact Or.inr ⟨by decide, by decide, hj, fun _ => by cases hj; simp [Value.category]⟩
    | 8, hj => exact Or.inl ⟨rfl, (Option.some.inj (Option.some.inj hj)).symm⟩
    | 9, hj => cases hj
    | 10, hj => exact Or.inr ⟨by decide, by decide, hj, fun h => absurd h (by decide)⟩
    | q + 11, hj => simp at hj
set_option maxRecDepth 100000 in
theorem st_11_8_l_n {o0 o1 o2 o3 o4 o5 o6 o8 o9 o10 : Option Value} {x : Int64} (hdg : decode cc pc = .ok (.lstore 8, 2)) (kk : R G l y cc 11 ret d mc ms Q (pc + 2) [o0, o1, o2, o3, o4, o5, o6, none, (some (.long x)), none, o10] st w k n) : R G l y cc 11 ret d mc ms Q pc [o0, o1, o2, o3, o4, o5, o6, none, o8, o9, o10] (.long x :: st) w k n := by
  intro p e Rm s m args below meth c Qt C hret H locs ls hH hS hl
  refine lv_lstore C.1 C.2.1 (x := x) hdg (hasL_as hl) (by decide) rfl (fun ls' h' => kk p e Rm s m args below meth c Qt C hret H locs ls' hH hS (hasL_set2 (x := .long x) h' ?_))
  intro j v hj
  match j, hj with
    | 0, hj => exact Or.inr ⟨by decide, by decide, hj, fun h => absurd h (by decide)⟩
    | 1, hj => exact Or.inr ⟨by decide, by decide, hj, fun h => absurd h (by decide)⟩
    | 2, hj => exact Or.inr ⟨by decide, by decide, hj, fun h => absurd h (by decide)⟩
    | 3, hj => exact Or.inr ⟨by decide, by decide, hj, fun h => absurd h (by decide)⟩
    | 4, hj => exact Or.inr ⟨by decide, by decide, hj, fun h => absurd h (by decide)⟩
    | 5, hj => exact Or.inr ⟨by decide, by decide, hj, fun h => absurd h (by decide)⟩
    | 6, hj => exact Or.inr ⟨by decide, by decide, hj, fun h => absurd h (by decide)⟩
    | 7, hj => cases hj
    | 8, hj => exact Or.inl ⟨rfl, (Option.some.inj (Option.some.inj hj)).symm⟩
    | 9, hj => cases hj
    | 10, hj => exact Or.inr ⟨by decide, by decide, hj, fun h => absurd h (by decide)⟩
    | q + 11, hj => simp at hj
set_option maxRecDepth 100000 in
theorem st_11_9_i_i {o0 o1 o2 o3 o4 o5 o6 o7 o9 o10 : Option Value} {pv : Int32} {x : Int32} (hdg : decode cc pc = .ok (.istore 9, 2)) (kk : R G l y cc 11 ret d mc ms Q (pc + 2) [o0, o1, o2, o3, o4, o5, o6, o7, (some (.int pv)), (some (.int x)), o10] st w k n) : R G l y cc 11 ret d mc ms Q pc [o0, o1, o2, o3, o4, o5, o6, o7, (some (.int pv)), o9, o10] (.int x :: st) w k n := by
  intro p e Rm s m args below meth c Qt C hret H locs ls hH hS hl
  refine lv_istore C.1 C.2.1 (x := x) hdg (hasL_as hl) (by decide) rfl (fun ls' h' => kk p e Rm s m args below meth c Qt C hret H locs ls' hH hS (hasL_set1 (x := .int x) h' ?_))
  intro j v hj
  match j, hj with
    | 0, hj => exact Or.inr ⟨by decide, hj, fun h => absurd h (by decide)⟩
    | 1, hj => exact Or.inr ⟨by decide, hj, fun h => absurd h (by decide)⟩
    | 2, hj => exact Or.inr ⟨by decide, hj, fun h => absurd h (by decide)⟩
    | 3, hj => exact Or.inr ⟨by decide, hj, fun h => absurd h (by decide)⟩
    | 4, hj => exact Or.inr ⟨by decide, hj, fun h => absurd h (by decide)⟩
    | 5, hj => exact Or.inr ⟨by decide, hj, fun h => absurd h (by decide)⟩
    | 6, hj => exact Or.inr ⟨by decide, hj, fun h => absurd h (by decide)⟩
    | 7, hj => exact Or.inr ⟨by decide, hj, fun h => absurd h (by decide)⟩
    | 8, hj => exact Or.inr ⟨by decide, hj, fun _ => by cases hj; simp [Value.category]⟩
    | 9, hj => exact Or.inl ⟨rfl, (Option.some.inj (Option.some.inj hj)).symm⟩
    | 10, hj => exact Or.inr ⟨by decide, hj, fun h => absurd h (by decide)⟩
    | q + 11, hj => simp at hj
set_option maxRecDepth 100000 in
theorem st_2_0_l_x {o0 o1 : Option Value} {x : Int64} (hdg : decode cc pc = .ok (.lstore_n 0, 1)) (kk : R G l y cc 2 ret d mc ms Q (pc + 1) [(some (.long x)), none] st w k n) : R G l y cc 2 ret d mc ms Q pc [o0, o1] (.long x :: st) w k n := by
  intro p e Rm s m args below meth c Qt C hret H locs ls hH hS hl
  refine lv_lstore_n C.1 C.2.1 (x := x) hdg rfl (hasL_as hl) (by decide) rfl (fun ls' h' => kk p e Rm s m args below meth c Qt C hret H locs ls' hH hS (hasL_set2 (x := .long x) h' ?_))
  intro j v hj
  match j, hj with
    | 0, hj => exact Or.inl ⟨rfl, (Option.some.inj (Option.some.inj hj)).symm⟩
    | 1, hj => cases hj
    | q + 2, hj => simp at hj
set_option maxRecDepth 100000 in
theorem st_2_1_a_a {o1 : Option Value} {pv : Nat} {x : Nat} (hdg : decode cc pc = .ok (.astore_n 1, 1)) (kk : R G l y cc 2 ret d mc ms Q (pc + 1) [(some (.ref pv)), (some (.ref x))] st w k n) : R G l y cc 2 ret d mc ms Q pc [(some (.ref pv)), o1] (.ref x :: st) w k n := by
  intro p e Rm s m args below meth c Qt C hret H locs ls hH hS hl
  refine lv_astore_n C.1 C.2.1 (x := ad G x) hdg rfl (hasL_as hl) (by decide) rfl (fun ls' h' => kk p e Rm s m args below meth c Qt C hret H locs ls' hH hS (hasL_set1 (x := .ref x) h' ?_))
  intro j v hj
  match j, hj with
    | 0, hj => exact Or.inr ⟨by decide, hj, fun _ => by cases hj; simp [Value.category]⟩
    | 1, hj => exact Or.inl ⟨rfl, (Option.some.inj (Option.some.inj hj)).symm⟩
    | q + 2, hj => simp at hj
set_option maxRecDepth 100000 in
theorem st_2_1_i_a {o1 : Option Value} {pv : Nat} {x : Int32} (hdg : decode cc pc = .ok (.istore_n 1, 1)) (kk : R G l y cc 2 ret d mc ms Q (pc + 1) [(some (.ref pv)), (some (.int x))] st w k n) : R G l y cc 2 ret d mc ms Q pc [(some (.ref pv)), o1] (.int x :: st) w k n := by
  intro p e Rm s m args below meth c Qt C hret H locs ls hH hS hl
  refine lv_istore_n C.1 C.2.1 (x := x) hdg rfl (hasL_as hl) (by decide) rfl (fun ls' h' => kk p e Rm s m args below meth c Qt C hret H locs ls' hH hS (hasL_set1 (x := .int x) h' ?_))
  intro j v hj
  match j, hj with
    | 0, hj => exact Or.inr ⟨by decide, hj, fun _ => by cases hj; simp [Value.category]⟩
    | 1, hj => exact Or.inl ⟨rfl, (Option.some.inj (Option.some.inj hj)).symm⟩
    | q + 2, hj => simp at hj
set_option maxRecDepth 100000 in
theorem st_3_1_i_a {o1 o2 : Option Value} {pv : Nat} {x : Int32} (hdg : decode cc pc = .ok (.istore_n 1, 1)) (kk : R G l y cc 3 ret d mc ms Q (pc + 1) [(some (.ref pv)), (some (.int x)), o2] st w k n) : R G l y cc 3 ret d mc ms Q pc [(some (.ref pv)), o1, o2] (.int x :: st) w k n := by
  intro p e Rm s m args below meth c Qt C hret H locs ls hH hS hl
  refine lv_istore_n C.1 C.2.1 (x := x) hdg rfl (hasL_as hl) (by decide) rfl (fun ls' h' => kk p e Rm s m args below meth c Qt C hret H locs ls' hH hS (hasL_set1 (x := .int x) h' ?_))
  intro j v hj
  match j, hj with
    | 0, hj => exact Or.inr ⟨by decide, hj, fun _ => by cases hj; simp [Value.category]⟩
    | 1, hj => exact Or.inl ⟨rfl, (Option.some.inj (Option.some.inj hj)).symm⟩
    | 2, hj => exact Or.inr ⟨by decide, hj, fun h => absurd h (by decide)⟩
    | q + 3, hj => simp at hj
set_option maxRecDepth 100000 in
theorem st_3_1_i_i {o1 o2 : Option Value} {pv : Int32} {x : Int32} (hdg : decode cc pc = .ok (.istore_n 1, 1)) (kk : R G l y cc 3 ret d mc ms Q (pc + 1) [(some (.int pv)), (some (.int x)), o2] st w k n) : R G l y cc 3 ret d mc ms Q pc [(some (.int pv)), o1, o2] (.int x :: st) w k n := by
  intro p e Rm s m args below meth c Qt C hret H locs ls hH hS hl
  refine lv_istore_n C.1 C.2.1 (x := x) hdg rfl (hasL_as hl) (by decide) rfl (fun ls' h' => kk p e Rm s m args below meth c Qt C hret H locs ls' hH hS (hasL_set1 (x := .int x) h' ?_))
  intro j v hj
  match j, hj with
    | 0, hj => exact Or.inr ⟨by decide, hj, fun _ => by cases hj; simp [Value.category]⟩
    | 1, hj => exact Or.inl ⟨rfl, (Option.some.inj (Option.some.inj hj)).symm⟩
    | 2, hj => exact Or.inr ⟨by decide, hj, fun h => absurd h (by decide)⟩
    | q + 3, hj => simp at hj
set_option maxRecDepth 100000 in
theorem st_3_2_i_a {o0 o2 : Option Value} {pv : Nat} {x : Int32} (hdg : decode cc pc = .ok (.istore_n 2, 1)) (kk : R G l y cc 3 ret d mc ms Q (pc + 1) [o0, (some (.ref pv)), (some (.int x))] st w k n) : R G l y cc 3 ret d mc ms Q pc [o0, (some (.ref pv)), o2] (.int x :: st) w k n := by
  intro p e Rm s m args below meth c Qt C hret H locs ls hH hS hl
  refine lv_istore_n C.1 C.2.1 (x := x) hdg rfl (hasL_as hl) (by decide) rfl (fun ls' h' => kk p e Rm s m args below meth c Qt C hret H locs ls' hH hS (hasL_set1 (x := .int x) h' ?_))
  intro j v hj
  match j, hj with
    | 0, hj => exact Or.inr ⟨by decide, hj, fun h => absurd h (by decide)⟩
    | 1, hj => exact Or.inr ⟨by decide, hj, fun _ => by cases hj; simp [Value.category]⟩
    | 2, hj => exact Or.inl ⟨rfl, (Option.some.inj (Option.some.inj hj)).symm⟩
    | q + 3, hj => simp at hj
set_option maxRecDepth 100000 in
theorem st_3_2_i_i {o0 o2 : Option Value} {pv : Int32} {x : Int32} (hdg : decode cc pc = .ok (.istore_n 2, 1)) (kk : R G l y cc 3 ret d mc ms Q (pc + 1) [o0, (some (.int pv)), (some (.int x))] st w k n) : R G l y cc 3 ret d mc ms Q pc [o0, (some (.int pv)), o2] (.int x :: st) w k n := by
  intro p e Rm s m args below meth c Qt C hret H locs ls hH hS hl
  refine lv_istore_n C.1 C.2.1 (x := x) hdg rfl (hasL_as hl) (by decide) rfl (fun ls' h' => kk p e Rm s m args below meth c Qt C hret H locs ls' hH hS (hasL_set1 (x := .int x) h' ?_))
  intro j v hj
  match j, hj with
    | 0, hj => exact Or.inr ⟨by decide, hj, fun h => absurd h (by decide)⟩
    | 1, hj => exact Or.inr ⟨by decide, hj, fun _ => by cases hj; simp [Value.category]⟩
    | 2, hj => exact Or.inl ⟨rfl, (Option.some.inj (Option.some.inj hj)).symm⟩
    | q + 3, hj => simp at hj
set_option maxRecDepth 100000 in
theorem st_4_1_a_a {o1 o2 o3 : Option Value} {pv : Nat} {x : Nat} (hdg : decode cc pc = .ok (.astore_n 1, 1)) (kk : R G l y cc 4 ret d mc ms Q (pc + 1) [(some (.ref pv)), (some (.ref x)), o2, o3] st w k n) : R G l y cc 4 ret d mc ms Q pc [(some (.ref pv)), o1, o2, o3] (.ref x :: st) w k n := by
  intro p e Rm s m args below meth c Qt C hret H locs ls hH hS hl
  refine lv_astore_n C.1 C.2.1 (x := ad G x) hdg rfl (hasL_as hl) (by decide) rfl (fun ls' h' => kk p e Rm s m args below meth c Qt C hret H locs ls' hH hS (hasL_set1 (x := .ref x) h' ?_))
  intro j v hj
  match j, hj with
    | 0, hj => exact Or.inr ⟨by decide, hj, fun _ => by cases hj; simp [Value.category]⟩
    | 1, hj => exact Or.inl ⟨rfl, (Option.some.inj (Option.some.inj hj)).symm⟩
    | 2, hj => exact Or.inr ⟨by decide, hj, fun h => absurd h (by decide)⟩
    | 3, hj => exact Or.inr ⟨by decide, hj, fun h => absurd h (by decide)⟩
    | q + 4, hj => simp at hj
set_option maxRecDepth 100000 in
theorem st_4_1_i_a {o1 o2 o3 : Option Value} {pv : Nat} {x : Int32} (hdg : decode cc pc = .ok (.istore_n 1, 1)) (kk : R G l y cc 4 ret d mc ms Q (pc + 1) [(some (.ref pv)), (some (.int x)), o2, o3] st w k n) : R G l y cc 4 ret d mc ms Q pc [(some (.ref pv)), o1, o2, o3] (.int x :: st) w k n := by
  intro p e Rm s m args below meth c Qt C hret H locs ls hH hS hl
  refine lv_istore_n C.1 C.2.1 (x := x) hdg rfl (hasL_as hl) (by decide) rfl (fun ls' h' => kk p e Rm s m args below meth c Qt C hret H locs ls' hH hS (hasL_set1 (x := .int x) h' ?_))
  intro j v hj
  match j, hj with
    | 0, hj => exact Or.inr ⟨by decide, hj, fun _ => by cases hj; simp [Value.category]⟩
    | 1, hj => exact Or.inl ⟨rfl, (Option.some.inj (Option.some.inj hj)).symm⟩
    | 2, hj => exact Or.inr ⟨by decide, hj, fun h => absurd h (by decide)⟩
    | 3, hj => exact Or.inr ⟨by decide, hj, fun h => absurd h (by decide)⟩
    | q + 4, hj => simp at hj
set_option maxRecDepth 100000 in
theorem st_4_2_a_a {o0 o2 o3 : Option Value} {pv : Nat} {x : Nat} (hdg : decode cc pc = .ok (.astore_n 2, 1)) (kk : R G l y cc 4 ret d mc ms Q (pc + 1) [o0, (some (.ref pv)), (some (.ref x)), o3] st w k n) : R G l y cc 4 ret d mc ms Q pc [o0, (some (.ref pv)), o2, o3] (.ref x :: st) w k n := by
  intro p e Rm s m args below meth c Qt C hret H locs ls hH hS hl
  refine lv_astore_n C.1 C.2.1 (x := ad G x) hdg rfl (hasL_as hl) (by decide) rfl (fun ls' h' => kk p e Rm s m args below meth c Qt C hret H locs ls' hH hS (hasL_set1 (x := .ref x) h' ?_))
  intro j v hj
  match j, hj with
    | 0, hj => exact Or.inr ⟨by decide, hj, fun h => absurd h (by decide)⟩
    | 1, hj => exact Or.inr ⟨by decide, hj, fun _ => by cases hj; simp [Value.category]⟩
    | 2, hj => exact Or.inl ⟨rfl, (Option.some.inj (Option.some.inj hj)).symm⟩
    | 3, hj => exact Or.inr ⟨by decide, hj, fun h => absurd h (by decide)⟩
    | q + 4, hj => simp at hj
set_option maxRecDepth 100000 in
theorem st_4_2_i_a {o0 o2 o3 : Option Value} {pv : Nat} {x : Int32} (hdg : decode cc pc = .ok (.istore_n 2, 1)) (kk : R G l y cc 4 ret d mc ms Q (pc + 1) [o0, (some (.ref pv)), (some (.int x)), o3] st w k n) : R G l y cc 4 ret d mc ms Q pc [o0, (some (.ref pv)), o2, o3] (.int x :: st) w k n := by
  intro p e Rm s m args below meth c Qt C hret H locs ls hH hS hl
  refine lv_istore_n C.1 C.2.1 (x := x) hdg rfl (hasL_as hl) (by decide) rfl (fun ls' h' => kk p e Rm s m args below meth c Qt C hret H locs ls' hH hS (hasL_set1 (x := .int x) h' ?_))
  intro j v hj
  match j, hj with
    | 0, hj => exact Or.inr ⟨by decide, hj, fun h => absurd h (by decide)⟩
    | 1, hj => exact Or.inr ⟨by decide, hj, fun _ => by cases hj; simp [Value.category]⟩
    | 2, hj => exact Or.inl ⟨rfl, (Option.some.inj (Option.some.inj hj)).symm⟩
    | 3, hj => exact Or.inr ⟨by decide, hj, fun h => absurd h (by decide)⟩
    | q + 4, hj => simp at hj
set_option maxRecDepth 100000 in
theorem st_4_2_i_i {o0 o2 o3 : Option Value} {pv : Int32} {x : Int32} (hdg : decode cc pc = .ok (.istore_n 2, 1)) (kk : R G l y cc 4 ret d mc ms Q (pc + 1) [o0, (some (.int pv)), (some (.int x)), o3] st w k n) : R G l y cc 4 ret d mc ms Q pc [o0, (some (.int pv)), o2, o3] (.int x :: st) w k n := by
  intro p e Rm s m args below meth c Qt C hret H locs ls hH hS hl
  refine lv_istore_n C.1 C.2.1 (x := x) hdg rfl (hasL_as hl) (by decide) rfl (fun ls' h' => kk p e Rm s m args below meth c Qt C hret H locs ls' hH hS (hasL_set1 (x := .int x) h' ?_))
  intro j v hj
  match j, hj with
    | 0, hj => exact Or.inr ⟨by decide, hj, fun h => absurd h (by decide)⟩
    | 1, hj => exact Or.inr ⟨by decide, hj, fun _ => by cases hj; simp [Value.category]⟩
    | 2, hj => exact Or.inl ⟨rfl, (Option.some.inj (Option.some.inj hj)).symm⟩
    | 3, hj => exact Or.inr ⟨by decide, hj, fun h => absurd h (by decide)⟩
    | q + 4, hj => simp at hj
set_option maxRecDepth 100000 in
theorem st_4_3_i_a {o0 o1 o3 : Option Value} {pv : Nat} {x : Int32} (hdg : decode cc pc = .ok (.istore_n 3, 1)) (kk : R G l y cc 4 ret d mc ms Q (pc + 1) [o0, o1, (some (.ref pv)), (some (.int x))] st w k n) : R G l y cc 4 ret d mc ms Q pc [o0, o1, (some (.ref pv)), o3] (.int x :: st) w k n := by
  intro p e Rm s m args below meth c Qt C hret H locs ls hH hS hl
  refine lv_istore_n C.1 C.2.1 (x := x) hdg rfl (hasL_as hl) (by decide) rfl (fun ls' h' => kk p e Rm s m args below meth c Qt C hret H locs ls' hH hS (hasL_set1 (x := .int x) h' ?_))
  intro j v hj
  match j, hj with
    | 0, hj => exact Or.inr ⟨by decide, hj, fun h => absurd h (by decide)⟩
    | 1, hj => exact Or.inr ⟨by decide, hj, fun h => absurd h (by decide)⟩
    | 2, hj => exact Or.inr ⟨by decide, hj, fun _ => by cases hj; simp [Value.category]⟩
    | 3, hj => exact Or.inl ⟨rfl, (Option.some.inj (Option.some.inj hj)).symm⟩
    | q + 4, hj => simp at hj
set_option maxRecDepth 100000 in
theorem st_4_3_i_i {o0 o1 o3 : Option Value} {pv : Int32} {x : Int32} (hdg : decode cc pc = .ok (.istore_n 3, 1)) (kk : R G l y cc 4 ret d mc ms Q (pc + 1) [o0, o1, (some (.int pv)), (some (.int x))] st w k n) : R G l y cc 4 ret d mc ms Q pc [o0, o1, (some (.int pv)), o3] (.int x :: st) w k n := by
  intro p e Rm s m args below meth c Qt C hret H locs ls hH hS hl
  refine lv_istore_n C.1 C.2.1 (x := x) hdg rfl (hasL_as hl) (by decide) rfl (fun ls' h' => kk p e Rm s m args below meth c Qt C hret H locs ls' hH hS (hasL_set1 (x := .int x) h' ?_))
  intro j v hj
  match j, hj with
    | 0, hj => exact Or.inr ⟨by decide, hj, fun h => absurd h (by decide)⟩
    | 1, hj => exact Or.inr ⟨by decide, hj, fun h => absurd h (by decide)⟩
    | 2, hj => exact Or.inr ⟨by decide, hj, fun _ => by cases hj; simp [Value.category]⟩
    | 3, hj => exact Or.inl ⟨rfl, (Option.some.inj (Option.some.inj hj)).symm⟩
    | q + 4, hj => simp at hj
set_option maxRecDepth 100000 in
theorem st_5_2_i_i {o0 o2 o3 o4 : Option Value} {pv : Int32} {x : Int32} (hdg : decode cc pc = .ok (.istore_n 2, 1)) (kk : R G l y cc 5 ret d mc ms Q (pc + 1) [o0, (some (.int pv)), (some (.int x)), o3, o4] st w k n) : R G l y cc 5 ret d mc ms Q pc [o0, (some (.int pv)), o2, o3, o4] (.int x :: st) w k n := by
  intro p e Rm s m args below meth c Qt C hret H locs ls hH hS hl
  refine lv_istore_n C.1 C.2.1 (x := x) hdg rfl (hasL_as hl) (by decide) rfl (fun ls' h' => kk p e Rm s m args below meth c Qt C hret H locs ls' hH hS (hasL_set1 (x := .int x) h' ?_))
  intro j v hj
  match j, hj with
    | 0, hj => exact Or.inr ⟨by decide, hj, fun h => absurd h (by decide)⟩
    | 1, hj => exact Or.inr ⟨by decide, hj, fun _ => by cases hj; simp [Value.category]⟩
    | 2, hj => exact Or.inl ⟨rfl, (Option.some.inj (Option.some.inj hj)).symm⟩
    | 3, hj => exact Or.inr ⟨by decide, hj, fun h => absurd h (by decide)⟩
    | 4, hj => exact Or.inr ⟨by decide, hj, fun h => absurd h (by decide)⟩
    | q + 5, hj => simp at hj
set_option maxRecDepth 100000 in
theorem st_5_2_l_i {o0 o2 o3 o4 : Option Value} {pv : Int32} {x : Int64} (hdg : decode cc pc = .ok (.lstore_n 2, 1)) (kk : R G l y cc 5 ret d mc ms Q (pc + 1) [o0, (some (.int pv)), (some (.long x)), none, o4] st w k n) : R G l y cc 5 ret d mc ms Q pc [o0, (some (.int pv)), o2, o3, o4] (.long x :: st) w k n := by
  intro p e Rm s m args below meth c Qt C hret H locs ls hH hS hl
  refine lv_lstore_n C.1 C.2.1 (x := x) hdg rfl (hasL_as hl) (by decide) rfl (fun ls' h' => kk p e Rm s m args below meth c Qt C hret H locs ls' hH hS (hasL_set2 (x := .long x) h' ?_))
  intro j v hj
  match j, hj with
    | 0, hj => exact Or.inr ⟨by decide, by decide, hj, fun h => absurd h (by decide)⟩
    | 1, hj => exact Or.inr ⟨by decide, by decide, hj, fun _ => by cases hj; simp [Value.category]⟩
    | 2, hj => exact Or.inl ⟨rfl, (Option.some.inj (Option.some.inj hj)).symm⟩
    | 3, hj => cases hj
    | 4, hj => exact Or.inr ⟨by decide, by decide, hj, fun h => absurd h (by decide)⟩
    | q + 5, hj => simp at hj
set_option maxRecDepth 100000 in
theorem st_5_3_i_a {o0 o1 o3 o4 : Option Value} {pv : Nat} {x : Int32} (hdg : decode cc pc = .ok (.istore_n 3, 1)) (kk : R G l y cc 5 ret d mc ms Q (pc + 1) [o0, o1, (some (.ref pv)), (some (.int x)), o4] st w k n) : R G l y cc 5 ret d mc ms Q pc [o0, o1, (some (.ref pv)), o3, o4] (.int x :: st) w k n := by
  intro p e Rm s m args below meth c Qt C hret H locs ls hH hS hl
  refine lv_istore_n C.1 C.2.1 (x := x) hdg rfl (hasL_as hl) (by decide) rfl (fun ls' h' => kk p e Rm s m args below meth c Qt C hret H locs ls' hH hS (hasL_set1 (x := .int x) h' ?_))
  intro j v hj
  match j, hj with
    | 0, hj => exact Or.inr ⟨by decide, hj, fun h => absurd h (by decide)⟩
    | 1, hj => exact Or.inr ⟨by decide, hj, fun h => absurd h (by decide)⟩
    | 2, hj => exact Or.inr ⟨by decide, hj, fun _ => by cases hj; simp [Value.category]⟩
    | 3, hj => exact Or.inl ⟨rfl, (Option.some.inj (Option.some.inj hj)).symm⟩
    | 4, hj => exact Or.inr ⟨by decide, hj, fun h => absurd h (by decide)⟩
    | q + 5, hj => simp at hj
set_option maxRecDepth 100000 in
theorem st_5_3_i_i {o0 o1 o3 o4 : Option Value} {pv : Int32} {x : Int32} (hdg : decode cc pc = .ok (.istore_n 3, 1)) (kk : R G l y cc 5 ret d mc ms Q (pc + 1) [o0, o1, (some (.int pv)), (some (.int x)), o4] st w k n) : R G l y cc 5 ret d mc ms Q pc [o0, o1, (some (.int pv)), o3, o4] (.int x :: st) w k n := by
  intro p e Rm s m args below meth c Qt C hret H locs ls hH hS hl
  refine lv_istore_n C.1 C.2.1 (x := x) hdg rfl (hasL_as hl) (by decide) rfl (fun ls' h' => kk p e Rm s m args below meth c Qt C hret H locs ls' hH hS (hasL_set1 (x := .int x) h' ?_))
  intro j v hj
  match j, hj with
    | 0, hj => exact Or.inr ⟨by decide, hj, fun h => absurd h (by decide)⟩
    | 1, hj => exact Or.inr ⟨by decide, hj, fun h => absurd h (by decide)⟩
    | 2, hj => exact Or.inr ⟨by decide, hj, fun _ => by cases hj; simp [Value.category]⟩
    | 3, hj => exact Or.inl ⟨rfl, (Option.some.inj (Option.some.inj hj)).symm⟩
    | 4, hj => exact Or.inr ⟨by decide, hj, fun h => absurd h (by decide)⟩
    | q + 5, hj => simp at hj
set_option maxRecDepth 100000 in
theorem st_5_4_i_i {o0 o1 o2 o4 : Option Value} {pv : Int32} {x : Int32} (hdg : decode cc pc = .ok (.istore 4, 2)) (kk : R G l y cc 5 ret d mc ms Q (pc + 2) [o0, o1, o2, (some (.int pv)), (some (.int x))] st w k n) : R G l y cc 5 ret d mc ms Q pc [o0, o1, o2, (some (.int pv)), o4] (.int x :: st) w k n := by
  intro p e Rm s m args below meth c Qt C hret H locs ls hH hS hl
  refine lv_istore C.1 C.2.1 (x := x) hdg (hasL_as hl) (by decide) rfl (fun ls' h' => kk p e Rm s m args below meth c Qt C hret H locs ls' hH hS (hasL_set1 (x := .int x) h' ?_))
  intro j v hj
  match j, hj with
    | 0, hj => exact Or.inr ⟨by decide, hj, fun h => absurd h (by decide)⟩
    | 1, hj => exact Or.inr ⟨by decide, hj, fun h => absurd h (by decide)⟩
    | 2, hj => exact Or.inr ⟨by decide, hj, fun h => absurd h (by decide)⟩
    | 3, hj => exact Or.inr ⟨by decide, hj, fun _ => by cases hj; simp [Value.category]⟩
    | 4, hj => exact Or.inl ⟨rfl, (Option.some.inj (Option.some.inj hj)).symm⟩
    | q + 5, hj => simp at hj
set_option maxRecDepth 100000 in
theorem st_5_4_i_n {o0 o1 o2 o4 : Option Value} {x : Int32} (hdg : decode cc pc = .ok (.istore 4, 2)) (kk : R G l y cc 5 ret d mc ms Q (pc + 2) [o0, o1, o2, none, (some (.int x))] st w k n) : R G l y cc 5 ret d mc ms Q pc [o0, o1, o2, none, o4] (.int x :: st) w k n := by
  intro p e Rm s m args below meth c Qt C hret H locs ls hH hS hl
  refine lv_istore C.1 C.2.1 (x := x) hdg (hasL_as hl) (by decide) rfl (fun ls' h' => kk p e Rm s m args below meth c Qt C hret H locs ls' hH hS (hasL_set1 (x := .int x) h' ?_))
  intro j v hj
  match j, hj with
    | 0, hj => exact Or.inr ⟨by decide, hj, fun h => absurd h (by decide)⟩
    | 1, hj => exact Or.inr ⟨by decide, hj, fun h => absurd h (by decide)⟩
    | 2, hj => exact Or.inr ⟨by decide, hj, fun h => absurd h (by decide)⟩
    | 3, hj => cases hj
    | 4, hj => exact Or.inl ⟨rfl, (Option.some.inj (Option.some.inj hj)).symm⟩
    | q + 5, hj => simp at hj
set_option maxRecDepth 100000 in
theorem st_6_2_i_i {o0 o2 o3 o4 o5 : Option Value} {pv : Int32} {x : Int32} (hdg : decode cc pc = .ok (.istore_n 2, 1)) (kk : R G l y cc 6 ret d mc ms Q (pc + 1) [o0, (some (.int pv)), (some (.int x)), o3, o4, o5] st w k n) : R G l y cc 6 ret d mc ms Q pc [o0, (some (.int pv)), o2, o3, o4, o5] (.int x :: st) w k n := by
  intro p e Rm s m args below meth c Qt C hret H locs ls hH hS hl
  refine lv_istore_n C.1 C.2.1 (x := x) hdg rfl (hasL_as hl) (by decide) rfl (fun ls' h' => kk p e Rm s m args below meth c Qt C hret H locs ls' hH hS (hasL_set1 (x := .int x) h' ?_))
  intro j v hj
  match j, hj with
    | 0, hj => exact Or.inr ⟨by decide, hj, fun h => absurd h (by decide)⟩
    | 1, hj => exact Or.inr ⟨by decide, hj, fun _ => by cases hj; simp [Value.category]⟩
    | 2, hj => exact Or.inl ⟨rfl, (Option.some.inj (Option.some.inj hj)).symm⟩
    | 3, hj => exact Or.inr ⟨by decide, hj, fun h => absurd h (by decide)⟩
    | 4, hj => exact Or.inr ⟨by decide, hj, fun h => absurd h (by decide)⟩
    | 5, hj => exact Or.inr ⟨by decide, hj, fun h => absurd h (by decide)⟩
    | q + 6, hj => simp at hj
set_option maxRecDepth 100000 in
theorem st_6_2_l_i {o0 o2 o3 o4 o5 : Option Value} {pv : Int32} {x : Int64} (hdg : decode cc pc = .ok (.lstore_n 2, 1)) (kk : R G l y cc 6 ret d mc ms Q (pc + 1) [o0, (some (.int pv)), (some (.long x)), none, o4, o5] st w k n) : R G l y cc 6 ret d mc ms Q pc [o0, (some (.int pv)), o2, o3, o4, o5] (.long x :: st) w k n := by
  intro p e Rm s m args below meth c Qt C hret H locs ls hH hS hl
  refine lv_lstore_n C.1 C.2.1 (x := x) hdg rfl (hasL_as hl) (by decide) rfl (fun ls' h' => kk p e Rm s m args below meth c Qt C hret H locs ls' hH hS (hasL_set2 (x := .long x) h' ?_))
  intro j v hj
  match j, hj with
    | 0, hj => exact Or.inr ⟨by decide, by decide, hj, fun h => absurd h (by decide)⟩
    | 1, hj => exact Or.inr ⟨by decide, by decide, hj, fun _ => by cases hj; simp [Value.category]⟩
    | 2, hj => exact Or.inl ⟨rfl, (Option.some.inj (Option.some.inj hj)).symm⟩
    | 3, hj => cases hj
    | 4, hj => exact Or.inr ⟨by decide, by decide, hj, fun h => absurd h (by decide)⟩
    | 5, hj => exact Or.inr ⟨by decide, by decide, hj, fun h => absurd h (by decide)⟩
    | q + 6, hj => simp at hj
set_option maxRecDepth 100000 in
theorem st_6_3_i_i {o0 o1 o3 o4 o5 : Option Value} {pv : Int32} {x : Int32} (hdg : decode cc pc = .ok (.istore_n 3, 1)) (kk : R G l y cc 6 ret d mc ms Q (pc + 1) [o0, o1, (some (.int pv)), (some (.int x)), o4, o5] st w k n) : R G l y cc 6 ret d mc ms Q pc [o0, o1, (some (.int pv)), o3, o4, o5] (.int x :: st) w k n := by
  intro p e Rm s m args below meth c Qt C hret H locs ls hH hS hl
  refine lv_istore_n C.1 C.2.1 (x := x) hdg rfl (hasL_as hl) (by decide) rfl (fun ls' h' => kk p e Rm s m args below meth c Qt C hret H locs ls' hH hS (hasL_set1 (x := .int x) h' ?_))
  intro j v hj
  match j, hj with
    | 0, hj => exact Or.inr ⟨by decide, hj, fun h => absurd h (by decide)⟩
    | 1, hj => exact Or.inr ⟨by decide, hj, fun h => absurd h (by decide)⟩
    | 2, hj => exact Or.inr ⟨by decide, hj, fun _ => by cases hj; simp [Value.category]⟩
    | 3, hj => exact Or.inl ⟨rfl, (Option.some.inj (Option.some.inj hj)).symm⟩
    | 4, hj => exact Or.inr ⟨by decide, hj, fun h => absurd h (by decide)⟩
    | 5, hj => exact Or.inr ⟨by decide, hj, fun h => absurd h (by decide)⟩
    | q + 6, hj => simp at hj
set_option maxRecDepth 100000 in
theorem st_6_3_l_i {o0 o1 o3 o4 o5 : Option Value} {pv : Int32} {x : Int64} (hdg : decode cc pc = .ok (.lstore_n 3, 1)) (kk : R G l y cc 6 ret d mc ms Q (pc + 1) [o0, o1, (some (.int pv)), (some (.long x)), none, o5] st w k n) : R G l y cc 6 ret d mc ms Q pc [o0, o1, (some (.int pv)), o3, o4, o5] (.long x :: st) w k n := by
  intro p e Rm s m args below meth c Qt C hret H locs ls hH hS hl
  refine lv_lstore_n C.1 C.2.1 (x := x) hdg rfl (hasL_as hl) (by decide) rfl (fun ls' h' => kk p e Rm s m args below meth c Qt C hret H locs ls' hH hS (hasL_set2 (x := .long x) h' ?_))
  intro j v hj
  match j, hj with
    | 0, hj => exact Or.inr ⟨by decide, by decide, hj, fun h => absurd h (by decide)⟩
    | 1, hj => exact Or.inr ⟨by decide, by decide, hj, fun h => absurd h (by decide)⟩
    | 2, hj => exact Or.inr ⟨by decide, by decide, hj, fun _ => by cases hj; simp [Value.category]⟩
    | 3, hj => exact Or.inl ⟨rfl, (Option.some.inj (Option.some.inj hj)).symm⟩
    | 4, hj => cases hj
    | 5, hj => exact Or.inr ⟨by decide, by decide, hj, fun h => absurd h (by decide)⟩
    | q + 6, hj => simp at hj
set_option maxRecDepth 100000 in
theorem st_6_4_i_i {o0 o1 o2 o4 o5 : Option Value} {pv : Int32} {x : Int32} (hdg : decode cc pc = .ok (.istore 4, 2)) (kk : R G l y cc 6 ret d mc ms Q (pc + 2) [o0, o1, o2, (some (.int pv)), (some (.int x)), o5] st w k n) : R G l y cc 6 ret d mc ms Q pc [o0, o1, o2, (some (.int pv)), o4, o5] (.int x :: st) w k n := by
  intro p e Rm s m args below meth c Qt C hret H locs ls hH hS hl
  refine lv_istore C.1 C.2.1 (x := x) hdg (hasL_as hl) (by decide) rfl (fun ls' h' => kk p e Rm s m args below meth c Qt C hret H locs ls' hH hS (hasL_set1 (x := .int x) h' ?_))
  intro j v hj
  match j, hj with
    | 0, hj => exact Or.inr ⟨by decide, hj, fun h => absurd h (by decide)⟩
    | 1, hj => exact Or.inr ⟨by decide, hj, fun h => absurd h (by decide)⟩
    | 2, hj => exact Or.inr ⟨by decide, hj, fun h => absurd h (by decide)⟩
    | 3, hj => exact Or.inr ⟨by decide, hj, fun _ => by cases hj; simp [Value.category]⟩
    | 4, hj => exact Or.inl ⟨rfl, (Option.some.inj (Option.some.inj hj)).symm⟩
    | 5, hj => exact Or.inr ⟨by decide, hj, fun h => absurd h (by decide)⟩
    | q + 6, hj => simp at hj
set_option maxRecDepth 100000 in
theorem st_6_4_i_n {o0 o1 o2 o4 o5 : Option Value} {x : Int32} (hdg : decode cc pc = .ok (.istore 4, 2)) (kk : R G l y cc 6 ret d mc ms Q (pc + 2) [o0, o1, o2, none, (some (.int x)), o5] st w k n) : R G l y cc 6 ret d mc ms Q pc [o0, o1, o2, none, o4, o5] (.int x :: st) w k n := by
  intro p e Rm s m args below meth c Qt C hret H locs ls hH hS hl
  refine lv_istore C.1 C.2.1 (x := x) hdg (hasL_as hl) (by decide) rfl (fun ls' h' => kk p e Rm s m args below meth c Qt C hret H locs ls' hH hS (hasL_set1 (x := .int x) h' ?_))
  intro j v hj
  match j, hj with
    | 0, hj => exact Or.inr ⟨by decide, hj, fun h => absurd h (by decide)⟩
    | 1, hj => exact Or.inr ⟨by decide, hj, fun h => absurd h (by decide)⟩
    | 2, hj => exact Or.inr ⟨by decide, hj, fun h => absurd h (by decide)⟩
    | 3, hj => cases hj
    | 4, hj => exact Or.inl ⟨rfl, (Option.some.inj (Option.some.inj hj)).symm⟩
    | 5, hj => exact Or.inr ⟨by decide, hj, fun h => absurd h (by decide)⟩
    | q + 6, hj => simp at hj
set_option maxRecDepth 100000 in
theorem st_6_5_i_i {o0 o1 o2 o3 o5 : Option Value} {pv : Int32} {x : Int32} (hdg : decode cc pc = .ok (.istore 5, 2)) (kk : R G l y cc 6 ret d mc ms Q (pc + 2) [o0, o1, o2, o3, (some (.int pv)), (some (.int x))] st w k n) : R G l y cc 6 ret d mc ms Q pc [o0, o1, o2, o3, (some (.int pv)), o5] (.int x :: st) w k n := by
  intro p e Rm s m args below meth c Qt C hret H locs ls hH hS hl
  refine lv_istore C.1 C.2.1 (x := x) hdg (hasL_as hl) (by decide) rfl (fun ls' h' => kk p e Rm s m args below meth c Qt C hret H locs ls' hH hS (hasL_set1 (x := .int x) h' ?_))
  intro j v hj
  match j, hj with
    | 0, hj => exact Or.inr ⟨by decide, hj, fun h => absurd h (by decide)⟩
    | 1, hj => exact Or.inr ⟨by decide, hj, fun h => absurd h (by decide)⟩
    | 2, hj => exact Or.inr ⟨by decide, hj, fun h => absurd h (by decide)⟩
    | 3, hj => exact Or.inr ⟨by decide, hj, fun h => absurd h (by decide)⟩
    | 4, hj => exact Or.inr ⟨by decide, hj, fun _ => by cases hj; simp [Value.category]⟩
    | 5, hj => exact Or.inl ⟨rfl, (Option.some.inj (Option.some.inj hj)).symm⟩
    | q + 6, hj => simp at hj
set_option maxRecDepth 100000 in
theorem st_6_5_i_n {o0 o1 o2 o3 o5 : Option Value} {x : Int32} (hdg : decode cc pc = .ok (.istore 5, 2)) (kk : R G l y cc 6 ret d mc ms Q (pc + 2) [o0, o1, o2, o3, none, (some (.int x))] st w k n) : R G l y cc 6 ret d mc ms Q pc [o0, o1, o2, o3, none, o5] (.int x :: st) w k n := by
  intro p e Rm s m args below meth c Qt C hret H locs ls hH hS hl
  refine lv_istore C.1 C.2.1 (x := x) hdg (hasL_as hl) (by decide) rfl (fun ls' h' => kk p e Rm s m args below meth c Qt C hret H locs ls' hH hS (hasL_set1 (x := .int x) h' ?_))
  intro j v hj
  match j, hj with
    | 0, hj => exact Or.inr ⟨by decide, hj, fun h => absurd h (by decide)⟩
    | 1, hj => exact Or.inr ⟨by decide, hj, fun h => absurd h (by decide)⟩
    | 2, hj => exact Or.inr ⟨by decide, hj, fun h => absurd h (by decide)⟩
    | 3, hj => exact Or.inr ⟨by decide, hj, fun h => absurd h (by decide)⟩
    | 4, hj => cases hj
    | 5, hj => exact Or.inl ⟨rfl, (Option.some.inj (Option.some.inj hj)).symm⟩
    | q + 6, hj => simp at hj
set_option maxRecDepth 100000 in
theorem st_7_2_i_i {o0 o2 o3 o4 o5 o6 : Option Value} {pv : Int32} {x : Int32} (hdg : decode cc pc = .ok (.istore_n 2, 1)) (kk : R G l y cc 7 ret d mc ms Q (pc + 1) [o0, (some (.int pv)), (some (.int x)), o3, o4, o5, o6] st w k n) : R G l y cc 7 ret d mc ms Q pc [o0, (some (.int pv)), o2, o3, o4, o5, o6] (.int x :: st) w k n := by
  intro p e Rm s m args below meth c Qt C hret H locs ls hH hS hl
  refine lv_istore_n C.1 C.2.1 (x := x) hdg rfl (hasL_as hl) (by decide) rfl (fun ls' h' => kk p e Rm s m args below meth c Qt C hret H locs ls' hH hS (hasL_set1 (x := .int x) h' ?_))
  intro j v hj
  match j, hj with
    | 0, hj => exact Or.inr ⟨by decide, hj, fun h => absurd h (by decide)⟩
    | 1, hj => exact Or.inr ⟨by decide, hj, fun _ => by cases hj; simp [Value.category]⟩
    | 2, hj => exact Or.inl ⟨rfl, (Option.some.inj (Option.some.inj hj)).symm⟩
    | 3, hj => exact Or.inr ⟨by decide, hj, fun h => absurd h (by decide)⟩
    | 4, hj => exact Or.inr ⟨by decide, hj, fun h => absurd h (by decide)⟩
    | 5, hj => exact Or.inr ⟨by decide, hj, fun h => absurd h (by decide)⟩
    | 6, hj => exact Or.inr ⟨by decide, hj, fun h => absurd h (by decide)⟩
    | q + 7, hj => simp at hj
set_option maxRecDepth 100000 in
theorem st_7_2_l_i {o0 o2 o3 o4 o5 o6 : Option Value} {pv : Int32} {x : Int64} (hdg : decode cc pc = .ok (.lstore_n 2, 1)) (kk : R G l y cc 7 ret d mc ms Q (pc + 1) [o0, (some (.int pv)), (some (.long x)), none, o4, o5, o6] st w k n) : R G l y cc 7 ret d mc ms Q pc [o0, (some (.int pv)), o2, o3, o4, o5, o6] (.long x :: st) w k n := by
  intro p e Rm s m args below meth c Qt C hret H locs ls hH hS hl
  refine lv_lstore_n C.1 C.2.1 (x := x) hdg rfl (hasL_as hl) (by decide) rfl (fun ls' h' => kk p e Rm s m args below meth c Qt C hret H locs ls' hH hS (hasL_set2 (x := .long x) h' ?_))
  intro j v hj
  match j, hj with
    | 0, hj => exact Or.inr ⟨by decide, by decide, hj, fun h => absurd h (by decide)⟩
    | 1, hj => exact Or.inr ⟨by decide, by decide, hj, fun _ => by cases hj; simp [Value.category]⟩
    | 2, hj => exact Or.inl ⟨rfl, (Option.some.inj (Option.some.inj hj)).symm⟩
    | 3, hj => cases hj
    | 4, hj => exact Or.inr ⟨by decide, by decide, hj, fun h => absurd h (by decide)⟩
    | 5, hj => exact Or.inr ⟨by decide, by decide, hj, fun h => absurd h (by decide)⟩
    | 6, hj => exact Or.inr ⟨by decide, by decide, hj, fun h => absurd h (by decide)⟩
    | q + 7, hj => simp at hj
set_option maxRecDepth 100000 in
theorem st_7_3_i_i {o0 o1 o3 o4 o5 o6 : Option Value} {pv : Int32} {x : Int32} (hdg : decode cc pc = .ok (.istore_n 3, 1)) (kk : R G l y cc 7 ret d mc ms Q (pc + 1) [o0, o1, (some (.int pv)), (some (.int x)), o4, o5, o6] st w k n) : R G l y cc 7 ret d mc ms Q pc [o0, o1, (some (.int pv)), o3, o4, o5, o6] (.int x :: st) w k n := by
  intro p e Rm s m args below meth c Qt C hret H locs ls hH hS hl
  refine lv_istore_n C.1 C.2.1 (x := x) hdg rfl (hasL_as hl) (by decide) rfl (fun ls' h' => kk p e Rm s m args below meth c Qt C hret H locs ls' hH hS (hasL_set1 (x := .int x) h' ?_))
  intro j v hj
  match j, hj with
    | 0, hj => exact Or.inr ⟨by decide, hj, fun h => absurd h (by decide)⟩
    | 1, hj => exact Or.inr ⟨by decide, hj, fun h => absurd h (by decide)⟩
    | 2, hj => exact Or.inr ⟨by decide, hj, fun _ => by cases hj; simp [Value.category]⟩
    | 3, hj => exact Or.inl ⟨rfl, (Option.some.inj (Option.some.inj hj)).symm⟩
    | 4, hj => exact Or.inr ⟨by decide, hj, fun h => absurd h (by decide)⟩
    | 5, hj => exact Or.inr ⟨by decide, hj, fun h => absurd h (by decide)⟩
    | 6, hj => exact Or.inr ⟨by decide, hj, fun h => absurd h (by decide)⟩
    | q + 7, hj => simp at hj
set_option maxRecDepth 100000 in
theorem st_7_4_i_i {o0 o1 o2 o4 o5 o6 : Option Value} {pv : Int32} {x : Int32} (hdg : decode cc pc = .ok (.istore 4, 2)) (kk : R G l y cc 7 ret d mc ms Q (pc + 2) [o0, o1, o2, (some (.int pv)), (some (.int x)), o5, o6] st w k n) : R G l y cc 7 ret d mc ms Q pc [o0, o1, o2, (some (.int pv)), o4, o5, o6] (.int x :: st) w k n := by
  intro p e Rm s m args below meth c Qt C hret H locs ls hH hS hl
  refine lv_istore C.1 C.2.1 (x := x) hdg (hasL_as hl) (by decide) rfl (fun ls' h' => kk p e Rm s m args below meth c Qt C hret H locs ls' hH hS (hasL_set1 (x := .int x) h' ?_))
  intro j v hj
  match j, hj with
    | 0, hj => exact Or.inr ⟨by decide, hj, fun h => absurd h (by decide)⟩
    | 1, hj => exact Or.inr ⟨by decide, hj, fun h => absurd h (by decide)⟩
    | 2, hj => exact Or.inr ⟨by decide, hj, fun h => absurd h (by decide)⟩
    | 3, hj => exact Or.inr ⟨by decide, hj, fun _ => by cases hj; simp [Value.category]⟩
    | 4, hj => exact Or.inl ⟨rfl, (Option.some.inj (Option.some.inj hj)).symm⟩
    | 5, hj => exact Or.inr ⟨by decide, hj, fun h => absurd h (by decide)⟩
    | 6, hj => exact Or.inr ⟨by decide, hj, fun h => absurd h (by decide)⟩
    | q + 7, hj => simp at hj
set_option maxRecDepth 100000 in
theorem st_7_4_i_n {o0 o1 o2 o4 o5 o6 : Option Value} {x : Int32} (hdg : decode cc pc = .ok (.istore 4, 2)) (kk : R G l y cc 7 ret d mc ms Q (pc + 2) [o0, o1, o2, none, (some (.int x)), o5, o6] st w k n) : R G l y cc 7 ret d mc ms Q pc [o0, o1, o2, none, o4, o5, o6] (.int x :: st) w k n := by
  intro p e Rm s m args below meth c Qt C hret H locs ls hH hS hl
  refine lv_istore C.1 C.2.1 (x := x) hdg (hasL_as hl) (by decide) rfl (fun ls' h' => kk p e Rm s m args below meth c Qt C hret H locs ls' hH hS (hasL_set1 (x := .int x) h' ?_))
  intro j v hj
  match j, hj with
    | 0, hj => exact Or.inr ⟨by decide, hj, fun h => absurd h (by decide)⟩
    | 1, hj => exact Or.inr ⟨by decide, hj, fun h => absurd h (by decide)⟩
    | 2, hj => exact Or.inr ⟨by decide, hj, fun h => absurd h (by decide)⟩
    | 3, hj => cases hj
    | 4, hj => exact Or.inl ⟨rfl, (Option.some.inj (Option.some.inj hj)).symm⟩
    | 5, hj => exact Or.inr ⟨by decide, hj, fun h => absurd h (by decide)⟩
    | 6, hj => exact Or.inr ⟨by decide, hj, fun h => absurd h (by decide)⟩
    | q + 7, hj => simp at hj
set_option maxRecDepth 100000 in
theorem st_7_4_l_n {o0 o1 o2 o4 o5 o6 : Option Value} {x : Int64} (hdg : decode cc pc = .ok (.lstore 4, 2)) (kk : R G l y cc 7 ret d mc ms Q (pc + 2) [o0, o1, o2, none, (some (.long x)), none, o6] st w k n) : R G l y cc 7 ret d mc ms Q pc [o0, o1, o2, none, o4, o5, o6] (.long x :: st) w k n := by
  intro p e Rm s m args below meth c Qt C hret H locs ls hH hS hl
  refine lv_lstore C.1 C.2.1 (x := x) hdg (hasL_as hl) (by decide) rfl (fun ls' h' => kk p e Rm s m args below meth c Qt C hret H locs ls' hH hS (hasL_set2 (x := .long x) h' ?_))
  intro j v hj
  match j, hj with
    | 0, hj => exact Or.inr ⟨by decide, by decide, hj, fun h => absurd h (by decide)⟩
    | 1, hj => exact Or.inr ⟨by decide, by decide, hj, fun h => absurd h (by decide)⟩
    | 2, hj => exact Or.inr ⟨by decide, by decide, hj, fun h => absurd h (by decide)⟩
    | 3, hj => cases hj
    | 4, hj => exact Or.inl ⟨rfl, (Option.some.inj (Option.some.inj hj)).symm⟩
    | 5, hj => cases hj
    | 6, hj => exact Or.inr ⟨by decide, by decide, hj, fun h => absurd h (by decide)⟩
    | q + 7, hj => simp at hj
set_option maxRecDepth 100000 in
theorem st_7_5_i_i {o0 o1 o2 o3 o5 o6 : Option Value} {pv : Int32} {x : Int32} (hdg : decode cc pc = .ok (.istore 5, 2)) (kk : R G l y cc 7 ret d mc ms Q (pc + 2) [o0, o1, o2, o3, (some (.int pv)), (some (.int x)), o6] st w k n) : R G l y cc 7 ret d mc ms Q pc [o0, o1, o2, o3, (some (.int pv)), o5, o6] (.int x :: st) w k n := by
  intro p e Rm s m args below meth c Qt C hret H locs ls hH hS hl
  refine lv_istore C.1 C.2.1 (x := x) hdg (hasL_as hl) (by decide) rfl (fun ls' h' => kk p e Rm s m args below meth c Qt C hret H locs ls' hH hS (hasL_set1 (x := .int x) h' ?_))
  intro j v hj
  match j, hj with
    | 0, hj => exact Or.inr ⟨by decide, hj, fun h => absurd h (by decide)⟩
    | 1, hj => exact Or.inr ⟨by decide, hj, fun h => absurd h (by decide)⟩
    | 2, hj => exact Or.inr ⟨by decide, hj, fun h => absurd h (by decide)⟩
    | 3, hj => exact Or.inr ⟨by decide, hj, fun h => absurd h (by decide)⟩
    | 4, hj => exact Or.inr ⟨by decide, hj, fun _ => by cases hj; simp [Value.category]⟩
    | 5, hj => exact Or.inl ⟨rfl, (Option.some.inj (Option.some.inj hj)).symm⟩
    | 6, hj => exact Or.inr ⟨by decide, hj, fun h => absurd h (by decide)⟩
    | q + 7, hj => simp at hj
set_option maxRecDepth 100000 in
theorem st_7_6_i_i {o0 o1 o2 o3 o4 o6 : Option Value} {pv : Int32} {x : Int32} (hdg : decode cc pc = .ok (.istore 6, 2)) (kk : R G l y cc 7 ret d mc ms Q (pc + 2) [o0, o1, o2, o3, o4, (some (.int pv)), (some (.int x))] st w k n) : R G l y cc 7 ret d mc ms Q pc [o0, o1, o2, o3, o4, (some (.int pv)), o6] (.int x :: st) w k n := by
  intro p e Rm s m args below meth c Qt C hret H locs ls hH hS hl
  refine lv_istore C.1 C.2.1 (x := x) hdg (hasL_as hl) (by decide) rfl (fun ls' h' => kk p e Rm s m args below meth c Qt C hret H locs ls' hH hS (hasL_set1 (x := .int x) h' ?_))
  intro j v hj
  match j, hj with
    | 0, hj => exact Or.inr ⟨by decide, hj, fun h => absurd h (by decide)⟩
    | 1, hj => exact Or.inr ⟨by decide, hj, fun h => absurd h (by decide)⟩
    | 2, hj => exact Or.inr ⟨by decide, hj, fun h => absurd h (by decide)⟩
    | 3, hj => exact Or.inr ⟨by decide, hj, fun h => absurd h (by decide)⟩
    | 4, hj => exact Or.inr ⟨by decide, hj, fun h => absurd h (by decide)⟩
    | 5, hj => exact Or.inr ⟨by decide, hj, fun _ => by cases hj; simp [Value.category]⟩
    | 6, hj => exact Or.inl ⟨rfl, (Option.some.inj (Option.some.inj hj)).symm⟩
    | q + 7, hj => simp at hj
set_option maxRecDepth 100000 in
theorem st_7_6_i_n {o0 o1 o2 o3 o4 o6 : Option Value} {x : Int32} (hdg : decode cc pc = .ok (.istore 6, 2)) (kk : R G l y cc 7 ret d mc ms Q (pc + 2) [o0, o1, o2, o3, o4, none, (some (.int x))] st w k n) : R G l y cc 7 ret d mc ms Q pc [o0, o1, o2, o3, o4, none, o6] (.int x :: st) w k n := by
  intro p e Rm s m args below meth c Qt C hret H locs ls hH hS hl
  refine lv_istore C.1 C.2.1 (x := x) hdg (hasL_as hl) (by decide) rfl (fun ls' h' => kk p e Rm s m args below meth c Qt C hret H locs ls' hH hS (hasL_set1 (x := .int x) h' ?_))
  intro j v hj
  match j, hj with
    | 0, hj => exact Or.inr ⟨by decide, hj, fun h => absurd h (by decide)⟩
    | 1, hj => exact Or.inr ⟨by decide, hj, fun h => absurd h (by decide)⟩
    | 2, hj => exact Or.inr ⟨by decide, hj, fun h => absurd h (by decide)⟩
    | 3, hj => exact Or.inr ⟨by decide, hj, fun h => absurd h (by decide)⟩
    | 4, hj => exact Or.inr ⟨by decide, hj, fun h => absurd h (by decide)⟩
    | 5, hj => cases hj
    | 6, hj => exact Or.inl ⟨rfl, (Option.some.inj (Option.some.inj hj)).symm⟩
    | q + 7, hj => simp at hj
set_option maxRecDepth 100000 in
theorem st_8_2_i_a {o0 o2 o3 o4 o5 o6 o7 : Option Value} {pv : Nat} {x : Int32} (hdg : decode cc pc = .ok (.istore_n 2, 1)) (kk : R G l y cc 8 ret d mc ms Q (pc + 1) [o0, (some (.ref pv)), (some (.int x)), o3, o4, o5, o6, o7] st w k n) : R G l y cc 8 ret d mc ms Q pc [o0, (some (.ref pv)), o2, o3, o4, o5, o6, o7] (.int x :: st) w k n := by
  intro p e Rm s m args below meth c Qt C hret H locs ls hH hS hl
  refine lv_istore_n C.1 C.2.1 (x := x) hdg rfl (hasL_as hl) (by decide) rfl (fun ls' h' => kk p e Rm s m args below meth c Qt C hret H locs ls' hH hS (hasL_set1 (x := .int x) h' ?_))
  intro j v hj
  match j, hj with
    | 0, hj => exact Or.inr ⟨by decide, hj, fun h => absurd h (by decide)⟩
    | 1, hj => exact Or.inr ⟨by decide, hj, fun _ => by cases hj; simp [Value.category]⟩
    | 2, hj => exact Or.inl ⟨rfl, (Option.some.inj (Option.some.inj hj)).symm⟩
    | 3, hj => exact Or.inr ⟨by decide, hj, fun h => absurd h (by decide)⟩
    | 4, hj => exact Or.inr ⟨by decide, hj, fun h => absurd h (by decide)⟩
    | 5, hj => exact Or.inr ⟨by decide, hj, fun h => absurd h (by decide)⟩
    | 6, hj => exact Or.inr ⟨by decide, hj, fun h => absurd h (by decide)⟩
    | 7, hj => exact Or.inr ⟨by decide, hj, fun h => absurd h (by decide)⟩
    | q + 8, hj => simp at hj
set_option maxRecDepth 100000 in
theorem st_8_3_i_i {o0 o1 o3 o4 o5 o6 o7 : Option Value} {pv : Int32} {x : Int32} (hdg : decode cc pc = .ok (.istore_n 3, 1)) (kk : R G l y cc 8 ret d mc ms Q (pc + 1) [o0, o1, (some (.int pv)), (some (.int x)), o4, o5, o6, o7] st w k n) : R G l y cc 8 ret d mc ms Q pc [o0, o1, (some (.int pv)), o3, o4, o5, o6, o7] (.int x :: st) w k n := by
  intro p e Rm s m args below meth c Qt C hret H locs ls hH hS hl
  refine lv_istore_n C.1 C.2.1 (x := x) hdg rfl (hasL_as hl) (by decide) rfl (fun ls' h' => kk p e Rm s m args below meth c Qt C hret H locs ls' hH hS (hasL_set1 (x := .int x) h' ?_))
  intro j v hj
  match j, hj with
    | 0, hj => exact Or.inr ⟨by decide, hj, fun h => absurd h (by decide)⟩
    | 1, hj => exact Or.inr ⟨by decide, hj, fun h => absurd h (by decide)⟩
    | 2, hj => exact Or.inr ⟨by decide, hj, fun _ => by cases hj; simp [Value.category]⟩
    | 3, hj => exact Or.inl ⟨rfl, (Option.some.inj (Option.some.inj hj)).symm⟩
    | 4, hj => exact Or.inr ⟨by decide, hj, fun h => absurd h (by decide)⟩
    | 5, hj => exact Or.inr ⟨by decide, hj, fun h => absurd h (by decide)⟩
    | 6, hj => exact Or.inr ⟨by decide, hj, fun h => absurd h (by decide)⟩
    | 7, hj => exact Or.inr ⟨by decide, hj, fun h => absurd h (by decide)⟩
    | q + 8, hj => simp at hj
set_option maxRecDepth 100000 in
theorem st_8_4_i_i {o0 o1 o2 o4 o5 o6 o7 : Option Value} {pv : Int32} {x : Int32} (hdg : decode cc pc = .ok (.istore 4, 2)) (kk : R G l y cc 8 ret d mc ms Q (pc + 2) [o0, o1, o2, (some (.int pv)), (some (.int x)), o5, o6, o7] st w k n) : R G l y cc 8 ret d mc ms Q pc [o0, o1, o2, (some (.int pv)), o4, o5, o6, o7] (.int x :: st) w k n := by
  intro p e Rm s m args below meth c Qt C hret H locs ls hH hS hl
  refine lv_istore C.1 C.2.1 (x := x) hdg (hasL_as hl) (by decide) rfl (fun ls' h' => kk p e Rm s m args below meth c Qt C hret H locs ls' hH hS (hasL_set1 (x := .int x) h' ?_))
  intro j v hj
  match j, hj with
    | 0, hj => exact Or.inr ⟨by decide, hj, fun h => absurd h (by decide)⟩
    | 1, hj => exact Or.inr ⟨by decide, hj, fun h => absurd h (by decide)⟩
    | 2, hj => exact Or.inr ⟨by decide, hj, fun h => absurd h (by decide)⟩
    | 3, hj => exact Or.inr ⟨by decide, hj, fun _ => by cases hj; simp [Value.category]⟩
    | 4, hj => exact Or.inl ⟨rfl, (Option.some.inj (Option.some.inj hj)).symm⟩
    | 5, hj => exact Or.inr ⟨by decide, hj, fun h => absurd h (by decide)⟩
    | 6, hj => exact Or.inr ⟨by decide, hj, fun h => absurd h (by decide)⟩
    | 7, hj => exact Or.inr ⟨by decide, hj, fun h => absurd h (by decide)⟩
    | q + 8, hj => simp at hj
set_option maxRecDepth 100000 in
theorem st_8_5_i_i {o0 o1 o2 o3 o5 o6 o7 : Option Value} {pv : Int32} {x : Int32} (hdg : decode cc pc = .ok (.istore 5, 2)) (kk : R G l y cc 8 ret d mc ms Q (pc + 2) [o0, o1, o2, o3, (some (.int pv)), (some (.int x)), o6, o7] st w k n) : R G l y cc 8 ret d mc ms Q pc [o0, o1, o2, o3, (some (.int pv)), o5, o6, o7] (.int x :: st) w k n := by
  intro p e Rm s m args below meth c Qt C hret H locs ls hH hS hl
  refine lv_istore C.1 C.2.1 (x := x) hdg (hasL_as hl) (by decide) rfl (fun ls' h' => kk p e Rm s m args below meth c Qt C hret H locs ls' hH hS (hasL_set1 (x := .int x) h' ?_))
  intro j v hj
  match j, hj with
    | 0, hj => exact Or.inr ⟨by decide, hj, fun h => absurd h (by decide)⟩
    | 1, hj => exact Or.inr ⟨by decide, hj, fun h => absurd h (by decide)⟩
    | 2, hj => exact Or.inr ⟨by decide, hj, fun h => absurd h (by decide)⟩
    | 3, hj => exact Or.inr ⟨by decide, hj, fun h => absurd h (by decide)⟩
    | 4, hj => exact Or.inr ⟨by decide, hj, fun _ => by cases hj; simp [Value.category]⟩
    | 5, hj => exact Or.inl ⟨rfl, (Option.some.inj (Option.some.inj hj)).symm⟩
    | 6, hj => exact Or.inr ⟨by decide, hj, fun h => absurd h (by decide)⟩
    | 7, hj => exact Or.inr ⟨by decide, hj, fun h => absurd h (by decide)⟩
    | q + 8, hj => simp at hj
set_option maxRecDepth 100000 in
theorem st_8_6_i_i {o0 o1 o2 o3 o4 o6 o7 : Option Value} {pv : Int32} {x : Int32} (hdg : decode cc pc = .ok (.istore 6, 2)) (kk : R G l y cc 8 ret d mc ms Q (pc + 2) [o0, o1, o2, o3, o4, (some (.int pv)), (some (.int x)), o7] st w k n) : R G l y cc 8 ret d mc ms Q pc [o0, o1, o2, o3, o4, (some (.int pv)), o6, o7] (.int x :: st) w k n := by
  intro p e Rm s m args below meth c Qt C hret H locs ls hH hS hl
  refine lv_istore C.1 C.2.1 (x := x) hdg (hasL_as hl) (by decide) rfl (fun ls' h' => kk p e Rm s m args below meth c Qt C hret H locs ls' hH hS (hasL_set1 (x := .int x) h' ?_))
  intro j v hj
  match j, hj with
    | 0, hj => exact Or.inr ⟨by decide, hj, fun h => absurd h (by decide)⟩
    | 1, hj => exact Or.inr ⟨by decide, hj, fun h => absurd h (by decide)⟩
    | 2, hj => exact Or.inr ⟨by decide, hj, fun h => absurd h (by decide)⟩
    | 3, hj => exact Or.inr ⟨by decide, hj, fun h => absurd h (by decide)⟩
    | 4, hj => exact Or.inr ⟨by decide, hj, fun h => absurd h (by decide)⟩
    | 5, hj => exact Or.inr ⟨by decide, hj, fun _ => by cases hj; simp [Value.category]⟩
    | 6, hj => exact Or.inl ⟨rfl, (Option.some.inj (Option.some.inj hj)).symm⟩
    | 7, hj => exact Or.inr ⟨by decide, hj, fun h => absurd h (by decide)⟩
    | q + 8, hj => simp at hj
set_option maxRecDepth 100000 in
theorem st_8_7_i_i {o0 o1 o2 o3 o4 o5 o7 : Option Value} {pv : Int32} {x : Int32} (hdg : decode cc pc = .ok (.istore 7, 2)) (kk : R G l y cc 8 ret d mc ms Q (pc + 2) [o0, o1, o2, o3, o4, o5, (some (.int pv)), (some (.int x))] st w k n) : R G l y cc 8 ret d mc ms Q pc [o0, o1, o2, o3, o4, o5, (some (.int pv)), o7] (.int x :: st) w k n := by
  intro p e Rm s m args below meth c Qt C hret H locs ls hH hS hl
  refine lv_istore C.1 C.2.1 (x := x) hdg (hasL_as hl) (by decide) rfl (fun ls' h' => kk p e Rm s m args below meth c Qt C hret H locs ls' hH hS (hasL_set1 (x := .int x) h' ?_))
  intro j v hj
  match j, hj with
    | 0, hj => exact Or.inr ⟨by decide, hj, fun h => absurd h (by decide)⟩
    | 1, hj => exact Or.inr ⟨by decide, hj, fun h => absurd h (by decide)⟩
    | 2, hj => exact Or.inr ⟨by decide, hj, fun h => absurd h (by decide)⟩
    | 3, hj => exact Or.inr ⟨by decide, hj, fun h => absurd h (by decide)⟩
    | 4, hj => exact Or.inr ⟨by decide, hj, fun h => absurd h (by decide)⟩
    | 5, hj => exact Or.inr ⟨by decide, hj, fun h => absurd h (by decide)⟩
    | 6, hj => exact Or.inr ⟨by decide, hj, fun _ => by cases hj; simp [Value.category]⟩
    | 7, hj => exact Or.inl ⟨rfl, (Option.some.inj (Option.some.inj hj)).symm⟩
    | q + 8, hj => simp at hj
set_option maxRecDepth 100000 in
theorem st_9_3_i_i {o0 o1 o3 o4 o5 o6 o7 o8 : Option Value} {pv : Int32} {x : Int32} (hdg : decode cc pc = .ok (.istore_n 3, 1)) (kk : R G l y cc 9 ret d mc ms Q (pc + 1) [o0, o1, (some (.int pv)), (some (.int x)), o4, o5, o6, o7, o8] st w k n) : R G l y cc 9 ret d mc ms Q pc [o0, o1, (some (.int pv)), o3, o4, o5, o6, o7, o8] (.int x :: st) w k n := by
  intro p e Rm s m args below meth c Qt C hret H locs ls hH hS hl
  refine lv_istore_n C.1 C.2.1 (x := x) hdg rfl (hasL_as hl) (by decide) rfl (fun ls' h' => kk p e Rm s m args below meth c Qt C hret H locs ls' hH hS (hasL_set1 (x := .int x) h' ?_))
  intro j v hj
  match j, hj with
    | 0, hj => exact Or.inr ⟨by decide, hj, fun h => absurd h (by decide)⟩
    | 1, hj => exact Or.inr ⟨by decide, hj, fun h => absurd h (by decide)⟩
    | 2, hj => exact Or.inr ⟨by decide, hj, fun _ => by cases hj; simp [Value.category]⟩
    | 3, hj => exact Or.inl ⟨rfl, (Option.some.inj (Option.some.inj hj)).symm⟩
    | 4, hj => exact Or.inr ⟨by decide, hj, fun h => absurd h (by decide)⟩
    | 5, hj => exact Or.inr ⟨by decide, hj, fun h => absurd h (by decide)⟩
    | 6, hj => exact Or.inr ⟨by decide, hj, fun h => absurd h (by decide)⟩
    | 7, hj => exact Or.inr ⟨by decide, hj, fun h => absurd h (by decide)⟩
    | 8, hj => exact Or.inr ⟨by decide, hj, fun h => absurd h (by decide)⟩
    | q + 9, hj => simp at hj
set_option maxRecDepth 100000 in
theorem st_9_4_i_i {o0 o1 o2 o4 o5 o6 o7 o8 : Option Value} {pv : Int32} {x : Int32} (hdg : decode cc pc = .ok (.istore 4, 2)) (kk : R G l y cc 9 ret d mc ms Q (pc + 2) [o0, o1, o2, (some (.int pv)), (some (.int x)), o5, o6, o7, o8] st w k n) : R G l y cc 9 ret d mc ms Q pc [o0, o1, o2, (some (.int pv)), o4, o5, o6, o7, o8] (.int x :: st) w k n := by
  intro p e Rm s m args below meth c Qt C hret H locs ls hH hS hl
  refine lv_istore C.1 C.2.1 (x := x) hdg (hasL_as hl) (by decide) rfl (fun ls' h' => kk p e Rm s m args below meth c Qt C hret H locs ls' hH hS (hasL_set1 (x := .int x) h' ?_))
  intro j v hj
  match j, hj with
    | 0, hj => exact Or.inr ⟨by decide, hj, fun h => absurd h (by decide)⟩
    | 1, hj => exact Or.inr ⟨by decide, hj, fun h => absurd h (by decide)⟩
    | 2, hj => exact Or.inr ⟨by decide, hj, fun h => absurd h (by decide)⟩
    | 3, hj => exact Or.inr ⟨by decide, hj, fun _ => by cases hj; simp [Value.category]⟩
    | 4, hj => exact Or.inl ⟨rfl, (Option.some.inj (Option.some.inj hj)).symm⟩
    | 5, hj => exact Or.inr ⟨by decide, hj, fun h => absurd h (by decide)⟩
    | 6, hj => exact Or.inr ⟨by decide, hj, fun h => absurd h (by decide)⟩
    | 7, hj => exact Or.inr ⟨by decide, hj, fun h => absurd h (by decide)⟩
    | 8, hj => exact Or.inr ⟨by decide, hj, fun h => absurd h (by decide)⟩
    | q + 9, hj => simp at hj
set_option maxRecDepth 100000 in
theorem st_9_5_i_i {o0 o1 o2 o3 o5 o6 o7 o8 : Option Value} {pv : Int32} {x : Int32} (hdg : decode cc pc = .ok (.istore 5, 2)) (kk : R G l y cc 9 ret d mc ms Q (pc + 2) [o0, o1, o2, o3, (some (.int pv)), (some (.int x)), o6, o7, o8] st w k n) : R G l y cc 9 ret d mc ms Q pc [o0, o1, o2, o3, (some (.int pv)), o5, o6, o7, o8] (.int x :: st) w k n := by
  intro p e Rm s m args below meth c Qt C hret H locs ls hH hS hl
  refine lv_istore C.1 C.2.1 (x := x) hdg (hasL_as hl) (by decide) rfl (fun ls' h' => kk p e Rm s m args below meth c Qt C hret H locs ls' hH hS (hasL_set1 (x := .int x) h' ?_))
  intro j v hj
  match j, hj with
    | 0, hj => exact Or.inr ⟨by decide, hj, fun h => absurd h (by decide)⟩
    | 1, hj => exact Or.inr ⟨by decide, hj, fun h => absurd h (by decide)⟩
    | 2, hj => exact Or.inr ⟨by decide, hj, fun h => absurd h (by decide)⟩
    | 3, hj => exact Or.inr ⟨by decide, hj, fun h => absurd h (by decide)⟩
    | 4, hj => exact Or.inr ⟨by decide, hj, fun _ => by cases hj; simp [Value.category]⟩
    | 5, hj => exact Or.inl ⟨rfl, (Option.some.inj (Option.some.inj hj)).symm⟩
    | 6, hj => exact Or.inr ⟨by decide, hj, fun h => absurd h (by decide)⟩
    | 7, hj => exact Or.inr ⟨by decide, hj, fun h => absurd h (by decide)⟩
    | 8, hj => exact Or.inr ⟨by decide, hj, fun h => absurd h (by decide)⟩
    | q + 9, hj => simp at hj
set_option maxRecDepth 100000 in
theorem st_9_6_i_i {o0 o1 o2 o3 o4 o6 o7 o8 : Option Value} {pv : Int32} {x : Int32} (hdg : decode cc pc = .ok (.istore 6, 2)) (kk : R G l y cc 9 ret d mc ms Q (pc + 2) [o0, o1, o2, o3, o4, (some (.int pv)), (some (.int x)), o7, o8] st w k n) : R G l y cc 9 ret d mc ms Q pc [o0, o1, o2, o3, o4, (some (.int pv)), o6, o7, o8] (.int x :: st) w k n := by
  intro p e Rm s m args below meth c Qt C hret H locs ls hH hS hl
  refine lv_istore C.1 C.2.1 (x := x) hdg (hasL_as hl) (by decide) rfl (fun ls' h' => kk p e Rm s m args below meth c Qt C hret H locs ls' hH hS (hasL_set1 (x := .int x) h' ?_))
  intro j v hj
  match j, hj with
    | 0, hj => exact Or.inr ⟨by decide, hj, fun h => absurd h (by decide)⟩
    | 1, hj => exact Or.inr ⟨by decide, hj, fun h => absurd h (by decide)⟩
    | 2, hj => exact Or.inr ⟨by decide, hj, fun h => absurd h (by decide)⟩
    | 3, hj => exact Or.inr ⟨by decide, hj, fun h => absurd h (by decide)⟩
    | 4, hj => exact Or.inr ⟨by decide, hj, fun h => absurd h (by decide)⟩
    | 5, hj => exact Or.inr ⟨by decide, hj, fun _ => by cases hj; simp [Value.category]⟩
    | 6, hj => exact Or.inl ⟨rfl, (Option.some.inj (Option.some.inj hj)).symm⟩
    | 7, hj => exact Or.inr ⟨by decide, hj, fun h => absurd h (by decide)⟩
    | 8, hj => exact Or.inr ⟨by decide, hj, fun h => absurd h (by decide)⟩
    | q + 9, hj => simp at hj
set_option maxRecDepth 100000 in
theorem st_9_7_i_i {o0 o1 o2 o3 o4 o5 o7 o8 : Option Value} {pv : Int32} {x : Int32} (hdg : decode cc pc = .ok (.istore 7, 2)) (kk : R G l y cc 9 ret d mc ms Q (pc + 2) [o0, o1, o2, o3, o4, o5, (some (.int pv)), (some (.int x)), o8] st w k n) : R G l y cc 9 ret d mc ms Q pc [o0, o1, o2, o3, o4, o5, (some (.int pv)), o7, o8] (.int x :: st) w k n := by
  intro p e Rm s m args below meth c Qt C hret H locs ls hH hS hl
  refine lv_istore C.1 C.2.1 (x := x) hdg (hasL_as hl) (by decide) rfl (fun ls' h' => kk p e Rm s m args below meth c Qt C hret H locs ls' hH hS (hasL_set1 (x := .int x) h' ?_))
  intro j v hj
  match j, hj with
    | 0, hj => exact Or.inr ⟨by decide, hj, fun h => absurd h (by decide)⟩
    | 1, hj => exact Or.inr ⟨by decide, hj, fun h => absurd h (by decide)⟩
    | 2, hj => exact Or.inr ⟨by decide, hj, fun h => absurd h (by decide)⟩
    | 3, hj => exact Or.inr ⟨by decide, hj, fun h => absurd h (by decide)⟩
    | 4, hj => exact Or.inr ⟨by decide, hj, fun h => absurd h (by decide)⟩
    | 5, hj => exact Or.inr ⟨by decide, hj, fun h => absurd h (by decide)⟩
    | 6, hj => exact Or.inr ⟨by decide, hj, fun _ => by cases hj; simp [Value.category]⟩
    | 7, hj => exact Or.inl ⟨rfl, (Option.some.inj (Option.some.inj hj)).symm⟩
    | 8, hj => exact Or.inr ⟨by decide, hj, fun h => absurd h (by decide)⟩
    | q + 9, hj => simp at hj
set_option maxRecDepth 100000 in
theorem st_9_8_i_i {o0 o1 o2 o3 o4 o5 o6 o8 : Option Value} {pv : Int32} {x : Int32} (hdg : decode cc pc = .ok (.istore 8, 2)) (kk : R G l y cc 9 ret d mc ms Q (pc + 2) [o0, o1, o2, o3, o4, o5, o6, (some (.int pv)), (some (.int x))] st w k n) : R G l y cc 9 ret d mc ms Q pc [o0, o1, o2, o3, o4, o5, o6, (some (.int pv)), o8] (.int x :: st) w k n := by
  intro p e Rm s m args below meth c Qt C hret H locs ls hH hS hl
  refine lv_istore C.1 C.2.1 (x := x) hdg (hasL_as hl) (by decide) rfl (fun ls' h' => kk p e Rm s m args below meth c Qt C hret H locs ls' hH hS (hasL_set1 (x := .int x) h' ?_))
  intro j v hj
  match j, hj with
    | 0, hj => exact Or.inr ⟨by decide, hj, fun h => absurd h (by decide)⟩
    | 1, hj => exact Or.inr ⟨by decide, hj, fun h => absurd h (by decide)⟩
    | 2, hj => exact Or.inr ⟨by decide, hj, fun h => absurd h (by decide)⟩
    | 3, hj => exact Or.inr ⟨by decide, hj, fun h => absurd h (by decide)⟩
    | 4, hj => exact Or.inr ⟨by decide, hj, fun h => absurd h (by decide)⟩
    | 5, hj => exact Or.inr ⟨by decide, hj, fun h => absurd h (by decide)⟩
    | 6, hj => exact Or.inr ⟨by decide, hj, fun h => absurd h (by decide)⟩
    | 7, hj => exact Or.inr ⟨by decide, hj, fun _ => by cases hj; simp [Value.category]⟩
    | 8, hj => exact Or.inl ⟨rfl, (Option.some.inj (Option.some.inj hj)).symm⟩
    | q + 9, hj => simp at hj
end STORES
theorem wo_X8 : Cond.methodLink RX8 1 objectInit ∈ TW := TW_tb 23 (by decide +kernel) (by decide +kernel)
theorem wo_X0 : Cond.methodLink RX0 3 objectInit ∈ TW := TW_tb 31 (by decide +kernel) (by decide +kernel)
theorem wo_X3 : Cond.methodLink RX3 3 objectInit ∈ TW := TW_tb 103 (by decide +kernel) (by decide +kernel)
theorem wo_X5 : Cond.methodLink RX5 3 objectInit ∈ TW := TW_tb 130 (by decide +kernel) (by decide +kernel)
theorem wo_X1 : Cond.methodLink RX1 3 objectInit ∈ TW := TW_tb 156 (by decide +kernel) (by decide +kernel)
theorem wo_X7 : Cond.methodLink RX7 3 objectInit ∈ TW := TW_tb 163 (by decide +kernel) (by decide +kernel)
theorem wo_X2 : Cond.methodLink RX2 3 objectInit ∈ TW := TW_tb 235 (by decide +kernel) (by decide +kernel)
theorem wo_X6 : Cond.methodLink RX6 3 objectInit ∈ TW := TW_tb 259 (by decide +kernel) (by decide +kernel)
theorem wo_X4 : Cond.methodLink RX4 3 objectInit ∈ TW := TW_tb 283 (by decide +kernel) (by decide +kernel)
theorem wm_373 : Cond.methodLink RX3 66 Lib.Math.max.name ∈ TW := TW_tb 373 (by decide +kernel) (by decide +kernel)
theorem wm_376 : Cond.methodLink RX3 61 Lib.Math.min.name ∈ TW := TW_tb 376 (by decide +kernel) (by decide +kernel)
theorem w_382c : Cond.constantLong RJ13 314 (6148914691236517205 : Int64) ∈ TW := TW_tb 382 (by decide +kernel) (by decide +kernel)
theorem w_383c : Cond.constantLong RJ13 316 (3689348814741910323 : Int64) ∈ TW := TW_tb 383 (by decide +kernel) (by decide +kernel)
theorem w_384c : Cond.constantLong RJ13 318 (1085102592571150095 : Int64) ∈ TW := TW_tb 384 (by decide +kernel) (by decide +kernel)
theorem w_399c : Cond.constantLong RX8 322 (255 : Int64) ∈ TW := TW_tb 399 (by decide +kernel) (by decide +kernel)
theorem w_451c : Cond.constant RJ6 265 (1431655765 : Int32) ∈ TW := TW_tb 451 (by decide +kernel) (by decide +kernel)
theorem w_452c : Cond.constant RJ6 266 (858993459 : Int32) ∈ TW := TW_tb 452 (by decide +kernel) (by decide +kernel)
theorem w_453c : Cond.constant RJ6 267 (252645135 : Int32) ∈ TW := TW_tb 453 (by decide +kernel) (by decide +kernel)
theorem wm_504 : Cond.methodLink RX8 167 Lib.Math.max.name ∈ TW := TW_tb 504 (by decide +kernel) (by decide +kernel)
theorem w_673c : Cond.constantLong RX2 27 (-1 : Int64) ∈ TW := TW_tb 673 (by decide +kernel) (by decide +kernel)
theorem wm_689 : Cond.methodLink RX2 43 Lib.Math.abs.name ∈ TW := TW_tb 689 (by decide +kernel) (by decide +kernel)
theorem w_697c : Cond.constantLong RX8 284 (-1 : Int64) ∈ TW := TW_tb 697 (by decide +kernel) (by decide +kernel)
theorem wm_719 : Cond.methodLink RX6 105 Lib.Math.min.name ∈ TW := TW_tb 719 (by decide +kernel) (by decide +kernel)
theorem wo_X9 : Cond.methodLink RX9 1 objectInit ∈ TW := TW_tb 833 (by decide +kernel) (by decide +kernel)
theorem w_1004c : Cond.constantLong RX9 138 (255 : Int64) ∈ TW := TW_tb 1004 (by decide +kernel) (by decide +kernel)
theorem w_1212c : Cond.constantLong RX9 252 (-1 : Int64) ∈ TW := TW_tb 1212 (by decide +kernel) (by decide +kernel)
theorem w_1233c : Cond.constantLong RX9 292 (411 : Int64) ∈ TW := TW_tb 1233 (by decide +kernel) (by decide +kernel)
theorem w_1242c : Cond.constantLong RX9 269 (-2 : Int64) ∈ TW := TW_tb 1242 (by decide +kernel) (by decide +kernel)
theorem w_1243c : Cond.constantLong RX9 274 (27 : Int64) ∈ TW := TW_tb 1243 (by decide +kernel) (by decide +kernel)
theorem w_1244c : Cond.constantLong RX9 276 (96 : Int64) ∈ TW := TW_tb 1244 (by decide +kernel) (by decide +kernel)
theorem w_1245c : Cond.constantLong RX9 278 (-4 : Int64) ∈ TW := TW_tb 1245 (by decide +kernel) (by decide +kernel)
theorem w_1246c : Cond.constantLong RX9 280 (-3 : Int64) ∈ TW := TW_tb 1246 (by decide +kernel) (by decide +kernel)
theorem w_1255c : Cond.constantLong RX9 301 (131638 : Int64) ∈ TW := TW_tb 1255 (by decide +kernel) (by decide +kernel)
theorem w_1256c : Cond.constantLong RX9 303 (555 : Int64) ∈ TW := TW_tb 1256 (by decide +kernel) (by decide +kernel)
theorem w_1257c : Cond.constantLong RX9 305 (2968 : Int64) ∈ TW := TW_tb 1257 (by decide +kernel) (by decide +kernel)
theorem w_1258c : Cond.constantLong RX9 307 (40187 : Int64) ∈ TW := TW_tb 1258 (by decide +kernel) (by decide +kernel)
theorem w_1271c : Cond.constantLong "ViewCardsLaw" 13 (4294967295 : Int64) ∈ TW := TW_tb 1271 (by decide +kernel) (by decide +kernel)
section LDCW
variable {G : vG} {l : Launch} {y : MethodName} {cc : ByteArray} {nL : Nat} {ret : Option FieldType} {d mc ms : Nat} {Q : Option Value → VW → Prop} {pc : Nat} {lv : List (Option Value)} {st : List Value} {w : VW} {k n : Nat}
theorem R_ldcw {index : Nat} {v : Int32} (hc : (Jvm.Cond.constant y.cls index v) ∈ TW) (hdg : decode cc pc = .ok (.ldc_w index, 3)) (kk : R G l y cc nL ret d mc ms Q (pc + 3) lv (.int v :: st) w k n) : R G l y cc nL ret d mc ms Q pc lv st w k n := by
  intro p e Rm s m args below meth c Qt C hret H locs ls hH hS hl
  exact lv_ldcw C.1 C.2.1 C.2.2.2.1 (C.2.2.2.2.1 _ hc) hdg (kk p e Rm s m args below meth c Qt C hret H locs ls hH hS hl)
/-- an array's write, the world named -/
theorem W_iastore {a N : Nat} {f : Nat → Int32} {i x : Int32} {w2 : VW} (hdg : decode cc pc = .ok (.iastore, 1)) (he : w[a]? = some (.inl (0, N, .inl f))) (hin : vp_in i N) (hw : w.set a (.inl (0, N, .inl (upd f i.toNatClampNeg x))) = w2) (kk : R G l y cc nL ret d mc ms Q (pc + 1) lv st w2 k n) : R G l y cc nL ret d mc ms Q pc lv (.int x :: .int i :: .ref a :: st) w k n := R_iastore hdg he hin (by rw [hw]; exact kk)
theorem W_bastore {a N : Nat} {f : Nat → Int32} {i x : Int32} {w2 : VW} (hdg : decode cc pc = .ok (.bastore, 1)) (he : w[a]? = some (.inl (2, N, .inl f))) (hin : vp_in i N) (hx : vp_nar .boolean x = x) (hw : w.set a (.inl (2, N, .inl (upd f i.toNatClampNeg x))) = w2) (kk : R G l y cc nL ret d mc ms Q (pc + 1) lv st w2 k n) : R G l y cc nL ret d mc ms Q pc lv (.int x :: .int i :: .ref a :: st) w k n := R_bastore hdg he hin hx (by rw [hw]; exact kk)
theorem W_lastore {a N : Nat} {f : Nat → Int64} {i : Int32} {x : Int64} {w2 : VW} (hdg : decode cc pc = .ok (.lastore, 1)) (he : w[a]? = some (.inl (1, N, .inr (.inl f)))) (hin : vp_in i N) (hw : w.set a (.inl (1, N, .inr (.inl (vp_updL f i.toNatClampNeg x)))) = w2) (kk : R G l y cc nL ret d mc ms Q (pc + 1) lv st w2 k n) : R G l y cc nL ret d mc ms Q pc lv (.long x :: .int i :: .ref a :: st) w k n := R_lastore hdg he hin (by rw [hw]; exact kk)
end LDCW
end
section
/-! methods that touch no cell -/
def inR (v a b : Int32) : Prop := ¬ v < a ∧ ¬ b < v
theorem dX8_isWithin_0 : decode cX8_isWithin 0 = .ok (.iload_n 0, 1) := by decide +kernel
theorem dX8_isWithin_1 : decode cX8_isWithin 1 = .ok (.iload_n 1, 1) := by decide +kernel
theorem dX8_isWithin_2 : decode cX8_isWithin 2 = .ok (.if_icmp .lt 12, 3) := by decide +kernel
theorem dX8_isWithin_5 : decode cX8_isWithin 5 = .ok (.iload_n 0, 1) := by decide +kernel
theorem dX8_isWithin_6 : decode cX8_isWithin 6 = .ok (.iload_n 2, 1) := by decide +kernel
theorem dX8_isWithin_7 : decode cX8_isWithin 7 = .ok (.if_icmp .gt 7, 3) := by decide +kernel
theorem dX8_isWithin_10 : decode cX8_isWithin 10 = .ok (.iconst 1, 1) := by decide +kernel
theorem dX8_isWithin_11 : decode cX8_isWithin 11 = .ok (.goto 4, 3) := by decide +kernel
theorem dX8_isWithin_14 : decode cX8_isWithin 14 = .ok (.iconst 0, 1) := by decide +kernel
theorem dX8_isWithin_15 : decode cX8_isWithin 15 = .ok (.ireturn, 1) := by decide +kernel
set_option maxRecDepth 100000 in
set_option maxHeartbeats 4000000 in
theorem sp_X8_isWithin {G : vG} {l : Launch} (w : VW) (v a b : Int32) : Sp G l yX8_isWithin cX8_isWithin 3 (some .boolean) 0 0 0 [.int v, .int a, .int b] w (QI (fun x w2 => w2 = w ∧ (inR v a b ∧ x = 1 ∨ ¬ inR v a b ∧ x = 0))) := by
  refine Sp_of_R [(some (.int v)), (some (.int a)), (some (.int b))] [] rfl (by simp) rfl (Nat.le_of_ble_eq_true rfl) ?_
  refine R_iload_n (pc := 0) dX8_isWithin_0 rfl rfl ?_
  refine R_iload_n (pc := 1) dX8_isWithin_1 rfl rfl ?_
  refine R_iclt (pc := 2) 14 dX8_isWithin_2 (by decide) (fun b2_1 => ?_) (fun b2_1 => ?_)
  · skip
    refine R_iconst (pc := 14) (v := 0) dX8_isWithin_14 (by decide) ?_
    exact R_iret (pc := 15) dX8_isWithin_15 rfl rfl (Nat.zero_le _) (Nat.zero_le _) ⟨_, rfl, rfl, by unfold inR; simp [*]⟩
  · skip
    refine R_iload_n (pc := 5) dX8_isWithin_5 rfl rfl ?_
    refine R_iload_n (pc := 6) dX8_isWithin_6 rfl rfl ?_
    refine R_icgt (pc := 7) 14 dX8_isWithin_7 (by decide) (fun b7_2 => ?_) (fun b7_2 => ?_)
    · skip
      refine R_iconst (pc := 14) (v := 0) dX8_isWithin_14 (by decide) ?_
      exact R_iret (pc := 15) dX8_isWithin_15 rfl rfl (Nat.zero_le _) (Nat.zero_le _) ⟨_, rfl, rfl, by unfold inR; simp [*]⟩
    · skip
      refine R_iconst (pc := 10) (v := 1) dX8_isWithin_10 (by decide) ?_
      refine R_goto (pc := 11) 15 dX8_isWithin_11 (by decide) ?_
      exact R_iret (pc := 15) dX8_isWithin_15 rfl rfl (Nat.zero_le _) (Nat.zero_le _) ⟨_, rfl, rfl, by unfold inR; simp [*]⟩
theorem dX9_in_0 : decode cX9_in 0 = .ok (.iload_n 0, 1) := by decide +kernel
theorem dX9_in_1 : decode cX9_in 1 = .ok (.iload_n 1, 1) := by decide +kernel
theorem dX9_in_2 : decode cX9_in 2 = .ok (.if_icmp .lt 12, 3) := by decide +kernel
theorem dX9_in_5 : decode cX9_in 5 = .ok (.iload_n 0, 1) := by decide +kernel
theorem dX9_in_6 : decode cX9_in 6 = .ok (.iload_n 2, 1) := by decide +kernel
theorem dX9_in_7 : decode cX9_in 7 = .ok (.if_icmp .gt 7, 3) := by decide +kernel
theorem dX9_in_10 : decode cX9_in 10 = .ok (.iconst 1, 1) := by decide +kernel
theorem dX9_in_11 : decode cX9_in 11 = .ok (.goto 4, 3) := by decide +kernel
theorem dX9_in_14 : decode cX9_in 14 = .ok (.iconst 0, 1) := by decide +kernel
theorem dX9_in_15 : decode cX9_in 15 = .ok (.ireturn, 1) := by decide +kernel
set_option maxRecDepth 100000 in
set_option maxHeartbeats 4000000 in
theorem sp_X9_in {G : vG} {l : Launch} (w : VW) (v a b : Int32) : Sp G l yX9_in cX9_in 3 (some .boolean) 0 0 0 [.int v, .int a, .int b] w (QI (fun x w2 => w2 = w ∧ (inR v a b ∧ x = 1 ∨ ¬ inR v a b ∧ x = 0))) := by
  refine Sp_of_R [(some (.int v)), (some (.int a)), (some (.int b))] [] rfl (by simp) rfl (Nat.le_of_ble_eq_true rfl) ?_
  refine R_iload_n (pc := 0) dX9_in_0 rfl rfl ?_
  refine R_iload_n (pc := 1) dX9_in_1 rfl rfl ?_
  refine R_iclt (pc := 2) 14 dX9_in_2 (by decide) (fun b2_1 => ?_) (fun b2_1 => ?_)
  · skip
    refine R_iconst (pc := 14) (v := 0) dX9_in_14 (by decide) ?_
    exact R_iret (pc := 15) dX9_in_15 rfl rfl (Nat.zero_le _) (Nat.zero_le _) ⟨_, rfl, rfl, by unfold inR; simp [*]⟩
  · skip
    refine R_iload_n (pc := 5) dX9_in_5 rfl rfl ?_
    refine R_iload_n (pc := 6) dX9_in_6 rfl rfl ?_
    refine R_icgt (pc := 7) 14 dX9_in_7 (by decide) (fun b7_2 => ?_) (fun b7_2 => ?_)
    · skip
      refine R_iconst (pc := 14) (v := 0) dX9_in_14 (by decide) ?_
      exact R_iret (pc := 15) dX9_in_15 rfl rfl (Nat.zero_le _) (Nat.zero_le _) ⟨_, rfl, rfl, by unfold inR; simp [*]⟩
    · skip
      refine R_iconst (pc := 10) (v := 1) dX9_in_10 (by decide) ?_
      refine R_goto (pc := 11) 15 dX9_in_11 (by decide) ?_
      exact R_iret (pc := 15) dX9_in_15 rfl rfl (Nat.zero_le _) (Nat.zero_le _) ⟨_, rfl, rfl, by unfold inR; simp [*]⟩
theorem dX8_has_0 : decode cX8_has 0 = .ok (.iload_n 0, 1) := by decide +kernel
theorem dX8_has_1 : decode cX8_has 1 = .ok (.iload_n 1, 1) := by decide +kernel
theorem dX8_has_2 : decode cX8_has 2 = .ok (.ishr, 1) := by decide +kernel
theorem dX8_has_3 : decode cX8_has 3 = .ok (.iconst 1, 1) := by decide +kernel
theorem dX8_has_4 : decode cX8_has 4 = .ok (.iand, 1) := by decide +kernel
theorem dX8_has_5 : decode cX8_has 5 = .ok (.iconst 1, 1) := by decide +kernel
theorem dX8_has_6 : decode cX8_has 6 = .ok (.if_icmp .ne 7, 3) := by decide +kernel
theorem dX8_has_9 : decode cX8_has 9 = .ok (.iconst 1, 1) := by decide +kernel
theorem dX8_has_10 : decode cX8_has 10 = .ok (.goto 4, 3) := by decide +kernel
theorem dX8_has_13 : decode cX8_has 13 = .ok (.iconst 0, 1) := by decide +kernel
theorem dX8_has_14 : decode cX8_has 14 = .ok (.ireturn, 1) := by decide +kernel
set_option maxRecDepth 100000 in
set_option maxHeartbeats 4000000 in
theorem sp_X8_has {G : vG} {l : Launch} (w : VW) (a b : Int32) : Sp G l yX8_has cX8_has 2 (some .boolean) 0 0 0 [.int a, .int b] w (QI (fun x w2 => w2 = w ∧ (((a >>> (b &&& 31)) &&& 1) = 1 ∧ x = 1 ∨ ¬ ((a >>> (b &&& 31)) &&& 1) = 1 ∧ x = 0))) := by
  refine Sp_of_R [(some (.int a)), (some (.int b))] [] rfl (by simp) rfl (Nat.le_of_ble_eq_true rfl) ?_
  refine R_iload_n (pc := 0) dX8_has_0 rfl rfl ?_
  refine R_iload_n (pc := 1) dX8_has_1 rfl rfl ?_
  refine R_ishr (pc := 2) dX8_has_2 ?_
  refine R_iconst (pc := 3) (v := 1) dX8_has_3 (by decide) ?_
  refine R_iand (pc := 4) dX8_has_4 ?_
  refine R_iconst (pc := 5) (v := 1) dX8_has_5 (by decide) ?_
  refine R_icne (pc := 6) 13 dX8_has_6 (by decide) (fun b6_1 => ?_) (fun b6_1 => ?_)
  · skip
    refine R_iconst (pc := 13) (v := 0) dX8_has_13 (by decide) ?_
    exact R_iret (pc := 14) dX8_has_14 rfl rfl (Nat.zero_le _) (Nat.zero_le _) ⟨_, rfl, rfl, by simp [*]⟩
  · skip
    refine R_iconst (pc := 9) (v := 1) dX8_has_9 (by decide) ?_
    refine R_goto (pc := 10) 14 dX8_has_10 (by decide) ?_
    exact R_iret (pc := 14) dX8_has_14 rfl rfl (Nat.zero_le _) (Nat.zero_le _) ⟨_, rfl, rfl, by simp [*]⟩
theorem dX8_byteOf_0 : decode cX8_byteOf 0 = .ok (.lload_n 0, 1) := by decide +kernel
theorem dX8_byteOf_1 : decode cX8_byteOf 1 = .ok (.bipush 8, 2) := by decide +kernel
theorem dX8_byteOf_3 : decode cX8_byteOf 3 = .ok (.iload_n 2, 1) := by decide +kernel
theorem dX8_byteOf_4 : decode cX8_byteOf 4 = .ok (.imul, 1) := by decide +kernel
theorem dX8_byteOf_5 : decode cX8_byteOf 5 = .ok (.lshr, 1) := by decide +kernel
theorem dX8_byteOf_6 : decode cX8_byteOf 6 = .ok (.ldc2_w 322, 3) := by decide +kernel
theorem dX8_byteOf_9 : decode cX8_byteOf 9 = .ok (.land, 1) := by decide +kernel
theorem dX8_byteOf_10 : decode cX8_byteOf 10 = .ok (.l2i, 1) := by decide +kernel
theorem dX8_byteOf_11 : decode cX8_byteOf 11 = .ok (.ireturn, 1) := by decide +kernel
set_option maxRecDepth 100000 in
set_option maxHeartbeats 4000000 in
theorem sp_X8_byteOf {G : vG} {l : Launch} (w : VW) (a : Int64) (b : Int32) : Sp G l yX8_byteOf cX8_byteOf 3 (some .int) 0 0 0 [.long a, .int b] w (QI (fun x w2 => w2 = w ∧ x = Int64.toInt32 ((a >>> ((8 * b).toInt64 &&& 63)) &&& 255))) := by
  refine Sp_of_R [(some (.long a)), none, (some (.int b))] [] rfl (by simp) rfl (Nat.le_of_ble_eq_true rfl) ?_
  refine R_lload_n (pc := 0) dX8_byteOf_0 rfl rfl ?_
  refine R_bipush (pc := 1) (v := 8) dX8_byteOf_1 (by decide) ?_
  refine R_iload_n (pc := 3) dX8_byteOf_3 rfl rfl ?_
  refine R_imul (pc := 4) dX8_byteOf_4 ?_
  refine R_lshr (pc := 5) dX8_byteOf_5 ?_
  refine R_ldc2 (pc := 6) w_399c dX8_byteOf_6 ?_
  refine R_land (pc := 9) dX8_byteOf_9 ?_
  refine R_l2i (pc := 10) dX8_byteOf_10 ?_
  exact R_iret (pc := 11) dX8_byteOf_11 rfl rfl (Nat.zero_le _) (Nat.zero_le _) ⟨_, rfl, rfl, rfl⟩
theorem dX8_isLetter_0 : decode cX8_isLetter 0 = .ok (.iload_n 0, 1) := by decide +kernel
theorem dX8_isLetter_1 : decode cX8_isLetter 1 = .ok (.bipush 97, 2) := by decide +kernel
theorem dX8_isLetter_3 : decode cX8_isLetter 3 = .ok (.if_icmp .lt 13, 3) := by decide +kernel
theorem dX8_isLetter_6 : decode cX8_isLetter 6 = .ok (.iload_n 0, 1) := by decide +kernel
theorem dX8_isLetter_7 : decode cX8_isLetter 7 = .ok (.bipush 122, 2) := by decide +kernel
theorem dX8_isLetter_9 : decode cX8_isLetter 9 = .ok (.if_icmp .gt 7, 3) := by decide +kernel
theorem dX8_isLetter_12 : decode cX8_isLetter 12 = .ok (.iconst 1, 1) := by decide +kernel
theorem dX8_isLetter_13 : decode cX8_isLetter 13 = .ok (.goto 4, 3) := by decide +kernel
theorem dX8_isLetter_16 : decode cX8_isLetter 16 = .ok (.iconst 0, 1) := by decide +kernel
theorem dX8_isLetter_17 : decode cX8_isLetter 17 = .ok (.ireturn, 1) := by decide +kernel
set_option maxRecDepth 100000 in
set_option maxHeartbeats 4000000 in
theorem sp_X8_isLetter {G : vG} {l : Launch} (w : VW) (v : Int32) : Sp G l yX8_isLetter cX8_isLetter 1 (some .boolean) 0 0 0 [.int v] w (QI (fun x w2 => w2 = w ∧ (inR v 97 122 ∧ x = 1 ∨ ¬ inR v 97 122 ∧ x = 0))) := by
  refine Sp_of_R [(some (.int v))] [] rfl (by simp) rfl (Nat.le_of_ble_eq_true rfl) ?_
  refine R_iload_n (pc := 0) dX8_isLetter_0 rfl rfl ?_
  refine R_bipush (pc := 1) (v := 97) dX8_isLetter_1 (by decide) ?_
  refine R_iclt (pc := 3) 16 dX8_isLetter_3 (by decide) (fun b3_1 => ?_) (fun b3_1 => ?_)
  · skip
    refine R_iconst (pc := 16) (v := 0) dX8_isLetter_16 (by decide) ?_
    exact R_iret (pc := 17) dX8_isLetter_17 rfl rfl (Nat.zero_le _) (Nat.zero_le _) ⟨_, rfl, rfl, by unfold inR; simp [*]⟩
  · skip
    refine R_iload_n (pc := 6) dX8_isLetter_6 rfl rfl ?_
    refine R_bipush (pc := 7) (v := 122) dX8_isLetter_7 (by decide) ?_
    refine R_icgt (pc := 9) 16 dX8_isLetter_9 (by decide) (fun b9_2 => ?_) (fun b9_2 => ?_)
    · skip
      refine R_iconst (pc := 16) (v := 0) dX8_isLetter_16 (by decide) ?_
      exact R_iret (pc := 17) dX8_isLetter_17 rfl rfl (Nat.zero_le _) (Nat.zero_le _) ⟨_, rfl, rfl, by unfold inR; simp [*]⟩
    · skip
      refine R_iconst (pc := 12) (v := 1) dX8_isLetter_12 (by decide) ?_
      refine R_goto (pc := 13) 17 dX8_isLetter_13 (by decide) ?_
      exact R_iret (pc := 17) dX8_isLetter_17 rfl rfl (Nat.zero_le _) (Nat.zero_le _) ⟨_, rfl, rfl, by unfold inR; simp [*]⟩
theorem dX8_isDigit_0 : decode cX8_isDigit 0 = .ok (.iload_n 0, 1) := by decide +kernel
theorem dX8_isDigit_1 : decode cX8_isDigit 1 = .ok (.bipush 48, 2) := by decide +kernel
theorem dX8_isDigit_3 : decode cX8_isDigit 3 = .ok (.if_icmp .lt 13, 3) := by decide +kernel
theorem dX8_isDigit_6 : decode cX8_isDigit 6 = .ok (.iload_n 0, 1) := by decide +kernel
theorem dX8_isDigit_7 : decode cX8_isDigit 7 = .ok (.bipush 57, 2) := by decide +kernel
theorem dX8_isDigit_9 : decode cX8_isDigit 9 = .ok (.if_icmp .gt 7, 3) := by decide +kernel
theorem dX8_isDigit_12 : decode cX8_isDigit 12 = .ok (.iconst 1, 1) := by decide +kernel
theorem dX8_isDigit_13 : decode cX8_isDigit 13 = .ok (.goto 4, 3) := by decide +kernel
theorem dX8_isDigit_16 : decode cX8_isDigit 16 = .ok (.iconst 0, 1) := by decide +kernel
theorem dX8_isDigit_17 : decode cX8_isDigit 17 = .ok (.ireturn, 1) := by decide +kernel
set_option maxRecDepth 100000 in
set_option maxHeartbeats 4000000 in
theorem sp_X8_isDigit {G : vG} {l : Launch} (w : VW) (v : Int32) : Sp G l yX8_isDigit cX8_isDigit 1 (some .boolean) 0 0 0 [.int v] w (QI (fun x w2 => w2 = w ∧ (inR v 48 57 ∧ x = 1 ∨ ¬ inR v 48 57 ∧ x = 0))) := by
  refine Sp_of_R [(some (.int v))] [] rfl (by simp) rfl (Nat.le_of_ble_eq_true rfl) ?_
  refine R_iload_n (pc := 0) dX8_isDigit_0 rfl rfl ?_
  refine R_bipush (pc := 1) (v := 48) dX8_isDigit_1 (by decide) ?_
  refine R_iclt (pc := 3) 16 dX8_isDigit_3 (by decide) (fun b3_1 => ?_) (fun b3_1 => ?_)
  · skip
    refine R_iconst (pc := 16) (v := 0) dX8_isDigit_16 (by decide) ?_
    exact R_iret (pc := 17) dX8_isDigit_17 rfl rfl (Nat.zero_le _) (Nat.zero_le _) ⟨_, rfl, rfl, by unfold inR; simp [*]⟩
  · skip
    refine R_iload_n (pc := 6) dX8_isDigit_6 rfl rfl ?_
    refine R_bipush (pc := 7) (v := 57) dX8_isDigit_7 (by decide) ?_
    refine R_icgt (pc := 9) 16 dX8_isDigit_9 (by decide) (fun b9_2 => ?_) (fun b9_2 => ?_)
    · skip
      refine R_iconst (pc := 16) (v := 0) dX8_isDigit_16 (by decide) ?_
      exact R_iret (pc := 17) dX8_isDigit_17 rfl rfl (Nat.zero_le _) (Nat.zero_le _) ⟨_, rfl, rfl, by unfold inR; simp [*]⟩
    · skip
      refine R_iconst (pc := 12) (v := 1) dX8_isDigit_12 (by decide) ?_
      refine R_goto (pc := 13) 17 dX8_isDigit_13 (by decide) ?_
      exact R_iret (pc := 17) dX8_isDigit_17 rfl rfl (Nat.zero_le _) (Nat.zero_le _) ⟨_, rfl, rfl, by unfold inR; simp [*]⟩
theorem dX3_moved_0 : decode cX3_moved 0 = .ok (.iload_n 2, 1) := by decide +kernel
theorem dX3_moved_1 : decode cX3_moved 1 = .ok (.ifCond .lt 9, 3) := by decide +kernel
theorem dX3_moved_4 : decode cX3_moved 4 = .ok (.lload_n 0, 1) := by decide +kernel
theorem dX3_moved_5 : decode cX3_moved 5 = .ok (.iload_n 2, 1) := by decide +kernel
theorem dX3_moved_6 : decode cX3_moved 6 = .ok (.lushr, 1) := by decide +kernel
theorem dX3_moved_7 : decode cX3_moved 7 = .ok (.goto 7, 3) := by decide +kernel
theorem dX3_moved_10 : decode cX3_moved 10 = .ok (.lload_n 0, 1) := by decide +kernel
theorem dX3_moved_11 : decode cX3_moved 11 = .ok (.iload_n 2, 1) := by decide +kernel
theorem dX3_moved_12 : decode cX3_moved 12 = .ok (.ineg, 1) := by decide +kernel
theorem dX3_moved_13 : decode cX3_moved 13 = .ok (.lshl, 1) := by decide +kernel
theorem dX3_moved_14 : decode cX3_moved 14 = .ok (.lreturn, 1) := by decide +kernel
set_option maxRecDepth 100000 in
set_option maxHeartbeats 4000000 in
theorem sp_X3_moved {G : vG} {l : Launch} (w : VW) (a : Int64) (b : Int32) : Sp G l yX3_moved cX3_moved 3 (some .long) 0 0 0 [.long a, .int b] w (QL (fun _ w2 => w2 = w)) := by
  refine Sp_of_R [(some (.long a)), none, (some (.int b))] [] rfl (by simp) rfl (Nat.le_of_ble_eq_true rfl) ?_
  refine R_iload_n (pc := 0) dX3_moved_0 rfl rfl ?_
  refine R_iflt (pc := 1) 10 dX3_moved_1 (by decide) (fun b1_1 => ?_) (fun b1_1 => ?_)
  · skip
    refine R_lload_n (pc := 10) dX3_moved_10 rfl rfl ?_
    refine R_iload_n (pc := 11) dX3_moved_11 rfl rfl ?_
    refine R_ineg (pc := 12) dX3_moved_12 ?_
    refine R_lshl (pc := 13) dX3_moved_13 ?_
    exact R_lret (pc := 14) dX3_moved_14 rfl (Nat.zero_le _) (Nat.zero_le _) ⟨_, rfl, rfl⟩
  · skip
    refine R_lload_n (pc := 4) dX3_moved_4 rfl rfl ?_
    refine R_iload_n (pc := 5) dX3_moved_5 rfl rfl ?_
    refine R_lushr (pc := 6) dX3_moved_6 ?_
    refine R_goto (pc := 7) 14 dX3_moved_7 (by decide) ?_
    exact R_lret (pc := 14) dX3_moved_14 rfl (Nat.zero_le _) (Nat.zero_le _) ⟨_, rfl, rfl⟩
def ush (a b : Int32) : Int32 := (a.toUInt32 >>> (b.toUInt32 &&& Int32.toUInt32 31)).toInt32
def pc1 (a : Int32) : Int32 := a - (ush a 1 &&& 1431655765)
def pc2 (a : Int32) : Int32 := (a &&& 858993459) + (ush a 2 &&& 858993459)
def pc3 (a : Int32) : Int32 := (a + ush a 4) &&& 252645135
def pc4 (a : Int32) : Int32 := a + ush a 8
def pc5 (a : Int32) : Int32 := a + ush a 16
def pcI (a : Int32) : Int32 := pc5 (pc4 (pc3 (pc2 (pc1 a)))) &&& 63
theorem dJ6_bitCount_0f7a4_0 : decode cJ6_bitCount_0f7a4 0 = .ok (.iload_n 0, 1) := by decide +kernel
theorem dJ6_bitCount_0f7a4_1 : decode cJ6_bitCount_0f7a4 1 = .ok (.iload_n 0, 1) := by decide +kernel
theorem dJ6_bitCount_0f7a4_2 : decode cJ6_bitCount_0f7a4 2 = .ok (.iconst 1, 1) := by decide +kernel
theorem dJ6_bitCount_0f7a4_3 : decode cJ6_bitCount_0f7a4 3 = .ok (.iushr, 1) := by decide +kernel
theorem dJ6_bitCount_0f7a4_4 : decode cJ6_bitCount_0f7a4 4 = .ok (.ldc_w 265, 3) := by decide +kernel
theorem dJ6_bitCount_0f7a4_7 : decode cJ6_bitCount_0f7a4 7 = .ok (.iand, 1) := by decide +kernel
theorem dJ6_bitCount_0f7a4_8 : decode cJ6_bitCount_0f7a4 8 = .ok (.isub, 1) := by decide +kernel
theorem dJ6_bitCount_0f7a4_9 : decode cJ6_bitCount_0f7a4 9 = .ok (.istore_n 0, 1) := by decide +kernel
theorem dJ6_bitCount_0f7a4_10 : decode cJ6_bitCount_0f7a4 10 = .ok (.iload_n 0, 1) := by decide +kernel
theorem dJ6_bitCount_0f7a4_11 : decode cJ6_bitCount_0f7a4 11 = .ok (.ldc_w 266, 3) := by decide +kernel
theorem dJ6_bitCount_0f7a4_14 : decode cJ6_bitCount_0f7a4 14 = .ok (.iand, 1) := by decide +kernel
theorem dJ6_bitCount_0f7a4_15 : decode cJ6_bitCount_0f7a4 15 = .ok (.iload_n 0, 1) := by decide +kernel
theorem dJ6_bitCount_0f7a4_16 : decode cJ6_bitCount_0f7a4 16 = .ok (.iconst 2, 1) := by decide +kernel
theorem dJ6_bitCount_0f7a4_17 : decode cJ6_bitCount_0f7a4 17 = .ok (.iushr, 1) := by decide +kernel
theorem dJ6_bitCount_0f7a4_18 : decode cJ6_bitCount_0f7a4 18 = .ok (.ldc_w 266, 3) := by decide +kernel
theorem dJ6_bitCount_0f7a4_21 : decode cJ6_bitCount_0f7a4 21 = .ok (.iand, 1) := by decide +kernel
theorem dJ6_bitCount_0f7a4_22 : decode cJ6_bitCount_0f7a4 22 = .ok (.iadd, 1) := by decide +kernel
theorem dJ6_bitCount_0f7a4_23 : decode cJ6_bitCount_0f7a4 23 = .ok (.istore_n 0, 1) := by decide +kernel
theorem dJ6_bitCount_0f7a4_24 : decode cJ6_bitCount_0f7a4 24 = .ok (.iload_n 0, 1) := by decide +kernel
theorem dJ6_bitCount_0f7a4_25 : decode cJ6_bitCount_0f7a4 25 = .ok (.iload_n 0, 1) := by decide +kernel
theorem dJ6_bitCount_0f7a4_26 : decode cJ6_bitCount_0f7a4 26 = .ok (.iconst 4, 1) := by decide +kernel
theorem dJ6_bitCount_0f7a4_27 : decode cJ6_bitCount_0f7a4 27 = .ok (.iushr, 1) := by decide +kernel
theorem dJ6_bitCount_0f7a4_28 : decode cJ6_bitCount_0f7a4 28 = .ok (.iadd, 1) := by decide +kernel
theorem dJ6_bitCount_0f7a4_29 : decode cJ6_bitCount_0f7a4 29 = .ok (.ldc_w 267, 3) := by decide +kernel
theorem dJ6_bitCount_0f7a4_32 : decode cJ6_bitCount_0f7a4 32 = .ok (.iand, 1) := by decide +kernel
theorem dJ6_bitCount_0f7a4_33 : decode cJ6_bitCount_0f7a4 33 = .ok (.istore_n 0, 1) := by decide +kernel
theorem dJ6_bitCount_0f7a4_34 : decode cJ6_bitCount_0f7a4 34 = .ok (.iload_n 0, 1) := by decide +kernel
theorem dJ6_bitCount_0f7a4_35 : decode cJ6_bitCount_0f7a4 35 = .ok (.iload_n 0, 1) := by decide +kernel
theorem dJ6_bitCount_0f7a4_36 : decode cJ6_bitCount_0f7a4 36 = .ok (.bipush 8, 2) := by decide +kernel
theorem dJ6_bitCount_0f7a4_38 : decode cJ6_bitCount_0f7a4 38 = .ok (.iushr, 1) := by decide +kernel
theorem dJ6_bitCount_0f7a4_39 : decode cJ6_bitCount_0f7a4 39 = .ok (.iadd, 1) := by decide +kernel
theorem dJ6_bitCount_0f7a4_40 : decode cJ6_bitCount_0f7a4 40 = .ok (.istore_n 0, 1) := by decide +kernel
theorem dJ6_bitCount_0f7a4_41 : decode cJ6_bitCount_0f7a4 41 = .ok (.iload_n 0, 1) := by decide +kernel
theorem dJ6_bitCount_0f7a4_42 : decode cJ6_bitCount_0f7a4 42 = .ok (.iload_n 0, 1) := by decide +kernel
theorem dJ6_bitCount_0f7a4_43 : decode cJ6_bitCount_0f7a4 43 = .ok (.bipush 16, 2) := by decide +kernel
theorem dJ6_bitCount_0f7a4_45 : decode cJ6_bitCount_0f7a4 45 = .ok (.iushr, 1) := by decide +kernel
theorem dJ6_bitCount_0f7a4_46 : decode cJ6_bitCount_0f7a4 46 = .ok (.iadd, 1) := by decide +kernel
theorem dJ6_bitCount_0f7a4_47 : decode cJ6_bitCount_0f7a4 47 = .ok (.istore_n 0, 1) := by decide +kernel
theorem dJ6_bitCount_0f7a4_48 : decode cJ6_bitCount_0f7a4 48 = .ok (.iload_n 0, 1) := by decide +kernel
theorem dJ6_bitCount_0f7a4_49 : decode cJ6_bitCount_0f7a4 49 = .ok (.bipush 63, 2) := by decide +kernel
theorem dJ6_bitCount_0f7a4_51 : decode cJ6_bitCount_0f7a4 51 = .ok (.iand, 1) := by decide +kernel
theorem dJ6_bitCount_0f7a4_52 : decode cJ6_bitCount_0f7a4 52 = .ok (.ireturn, 1) := by decide +kernel
set_option maxRecDepth 100000 in
set_option maxHeartbeats 4000000 in
theorem sp_J6_bitCount_0f7a4 {G : vG} {l : Launch} (w : VW) (a : Int32) : Sp G l yJ6_bitCount_0f7a4 cJ6_bitCount_0f7a4 1 (some .int) 0 0 0 [.int a] w (QI (fun x w2 => w2 = w ∧ x = pcI a)) := by
  refine Sp_of_R [(some (.int a))] [] rfl (by simp) rfl (Nat.le_of_ble_eq_true rfl) ?_
  refine R_iload_n (pc := 0) dJ6_bitCount_0f7a4_0 rfl rfl ?_
  refine R_iload_n (pc := 1) dJ6_bitCount_0f7a4_1 rfl rfl ?_
  refine R_iconst (pc := 2) (v := 1) dJ6_bitCount_0f7a4_2 (by decide) ?_
  refine R_iushr (pc := 3) dJ6_bitCount_0f7a4_3 ?_
  refine R_ldcw (pc := 4) w_451c dJ6_bitCount_0f7a4_4 ?_
  refine R_iand (pc := 7) dJ6_bitCount_0f7a4_7 ?_
  refine R_isub (pc := 8) dJ6_bitCount_0f7a4_8 ?_
  refine st_1_0_i_x (pc := 9) dJ6_bitCount_0f7a4_9 ?_
  refine R_iload_n (pc := 10) dJ6_bitCount_0f7a4_10 rfl rfl ?_
  refine R_ldcw (pc := 11) w_452c dJ6_bitCount_0f7a4_11 ?_
  refine R_iand (pc := 14) dJ6_bitCount_0f7a4_14 ?_
  refine R_iload_n (pc := 15) dJ6_bitCount_0f7a4_15 rfl rfl ?_
  refine R_iconst (pc := 16) (v := 2) dJ6_bitCount_0f7a4_16 (by decide) ?_
  refine R_iushr (pc := 17) dJ6_bitCount_0f7a4_17 ?_
  refine R_ldcw (pc := 18) w_452c dJ6_bitCount_0f7a4_18 ?_
  refine R_iand (pc := 21) dJ6_bitCount_0f7a4_21 ?_
  refine R_iadd (pc := 22) dJ6_bitCount_0f7a4_22 ?_
  refine st_1_0_i_x (pc := 23) dJ6_bitCount_0f7a4_23 ?_
  refine R_iload_n (pc := 24) dJ6_bitCount_0f7a4_24 rfl rfl ?_
  refine R_iload_n (pc := 25) dJ6_bitCount_0f7a4_25 rfl rfl ?_
  refine R_iconst (pc := 26) (v := 4) dJ6_bitCount_0f7a4_26 (by decide) ?_
  refine R_iushr (pc := 27) dJ6_bitCount_0f7a4_27 ?_
  refine R_iadd (pc := 28) dJ6_bitCount_0f7a4_28 ?_
  refine R_ldcw (pc := 29) w_453c dJ6_bitCount_0f7a4_29 ?_
  refine R_iand (pc := 32) dJ6_bitCount_0f7a4_32 ?_
  refine st_1_0_i_x (pc := 33) dJ6_bitCount_0f7a4_33 ?_
  refine R_iload_n (pc := 34) dJ6_bitCount_0f7a4_34 rfl rfl ?_
  refine R_iload_n (pc := 35) dJ6_bitCount_0f7a4_35 rfl rfl ?_
  refine R_bipush (pc := 36) (v := 8) dJ6_bitCount_0f7a4_36 (by decide) ?_
  refine R_iushr (pc := 38) dJ6_bitCount_0f7a4_38 ?_
  refine R_iadd (pc := 39) dJ6_bitCount_0f7a4_39 ?_
  refine st_1_0_i_x (pc := 40) dJ6_bitCount_0f7a4_40 ?_
  refine R_iload_n (pc := 41) dJ6_bitCount_0f7a4_41 rfl rfl ?_
  refine R_iload_n (pc := 42) dJ6_bitCount_0f7a4_42 rfl rfl ?_
  refine R_bipush (pc := 43) (v := 16) dJ6_bitCount_0f7a4_43 (by decide) ?_
  refine R_iushr (pc := 45) dJ6_bitCount_0f7a4_45 ?_
  refine R_iadd (pc := 46) dJ6_bitCount_0f7a4_46 ?_
  refine st_1_0_i_x (pc := 47) dJ6_bitCount_0f7a4_47 ?_
  refine R_iload_n (pc := 48) dJ6_bitCount_0f7a4_48 rfl rfl ?_
  refine R_bipush (pc := 49) (v := 63) dJ6_bitCount_0f7a4_49 (by decide) ?_
  refine R_iand (pc := 51) dJ6_bitCount_0f7a4_51 ?_
  exact R_iret (pc := 52) dJ6_bitCount_0f7a4_52 rfl rfl (Nat.zero_le _) (Nat.zero_le _) ⟨_, rfl, rfl, rfl⟩
theorem dJ13_bitCount_95d88_0 : decode cJ13_bitCount_95d88 0 = .ok (.lload_n 0, 1) := by decide +kernel
theorem dJ13_bitCount_95d88_1 : decode cJ13_bitCount_95d88 1 = .ok (.lload_n 0, 1) := by decide +kernel
theorem dJ13_bitCount_95d88_2 : decode cJ13_bitCount_95d88 2 = .ok (.iconst 1, 1) := by decide +kernel
theorem dJ13_bitCount_95d88_3 : decode cJ13_bitCount_95d88 3 = .ok (.lushr, 1) := by decide +kernel
theorem dJ13_bitCount_95d88_4 : decode cJ13_bitCount_95d88 4 = .ok (.ldc2_w 314, 3) := by decide +kernel
theorem dJ13_bitCount_95d88_7 : decode cJ13_bitCount_95d88 7 = .ok (.land, 1) := by decide +kernel
theorem dJ13_bitCount_95d88_8 : decode cJ13_bitCount_95d88 8 = .ok (.lsub, 1) := by decide +kernel
theorem dJ13_bitCount_95d88_9 : decode cJ13_bitCount_95d88 9 = .ok (.lstore_n 0, 1) := by decide +kernel
theorem dJ13_bitCount_95d88_10 : decode cJ13_bitCount_95d88 10 = .ok (.lload_n 0, 1) := by decide +kernel
theorem dJ13_bitCount_95d88_11 : decode cJ13_bitCount_95d88 11 = .ok (.ldc2_w 316, 3) := by decide +kernel
theorem dJ13_bitCount_95d88_14 : decode cJ13_bitCount_95d88 14 = .ok (.land, 1) := by decide +kernel
theorem dJ13_bitCount_95d88_15 : decode cJ13_bitCount_95d88 15 = .ok (.lload_n 0, 1) := by decide +kernel
theorem dJ13_bitCount_95d88_16 : decode cJ13_bitCount_95d88 16 = .ok (.iconst 2, 1) := by decide +kernel
theorem dJ13_bitCount_95d88_17 : decode cJ13_bitCount_95d88 17 = .ok (.lushr, 1) := by decide +kernel
theorem dJ13_bitCount_95d88_18 : decode cJ13_bitCount_95d88 18 = .ok (.ldc2_w 316, 3) := by decide +kernel
theorem dJ13_bitCount_95d88_21 : decode cJ13_bitCount_95d88 21 = .ok (.land, 1) := by decide +kernel
theorem dJ13_bitCount_95d88_22 : decode cJ13_bitCount_95d88 22 = .ok (.ladd, 1) := by decide +kernel
theorem dJ13_bitCount_95d88_23 : decode cJ13_bitCount_95d88 23 = .ok (.lstore_n 0, 1) := by decide +kernel
theorem dJ13_bitCount_95d88_24 : decode cJ13_bitCount_95d88 24 = .ok (.lload_n 0, 1) := by decide +kernel
theorem dJ13_bitCount_95d88_25 : decode cJ13_bitCount_95d88 25 = .ok (.lload_n 0, 1) := by decide +kernel
theorem dJ13_bitCount_95d88_26 : decode cJ13_bitCount_95d88 26 = .ok (.iconst 4, 1) := by decide +kernel
theorem dJ13_bitCount_95d88_27 : decode cJ13_bitCount_95d88 27 = .ok (.lushr, 1) := by decide +kernel
theorem dJ13_bitCount_95d88_28 : decode cJ13_bitCount_95d88 28 = .ok (.ladd, 1) := by decide +kernel
theorem dJ13_bitCount_95d88_29 : decode cJ13_bitCount_95d88 29 = .ok (.ldc2_w 318, 3) := by decide +kernel
theorem dJ13_bitCount_95d88_32 : decode cJ13_bitCount_95d88 32 = .ok (.land, 1) := by decide +kernel
theorem dJ13_bitCount_95d88_33 : decode cJ13_bitCount_95d88 33 = .ok (.lstore_n 0, 1) := by decide +kernel
theorem dJ13_bitCount_95d88_34 : decode cJ13_bitCount_95d88 34 = .ok (.lload_n 0, 1) := by decide +kernel
theorem dJ13_bitCount_95d88_35 : decode cJ13_bitCount_95d88 35 = .ok (.lload_n 0, 1) := by decide +kernel
theorem dJ13_bitCount_95d88_36 : decode cJ13_bitCount_95d88 36 = .ok (.bipush 8, 2) := by decide +kernel
theorem dJ13_bitCount_95d88_38 : decode cJ13_bitCount_95d88 38 = .ok (.lushr, 1) := by decide +kernel
theorem dJ13_bitCount_95d88_39 : decode cJ13_bitCount_95d88 39 = .ok (.ladd, 1) := by decide +kernel
theorem dJ13_bitCount_95d88_40 : decode cJ13_bitCount_95d88 40 = .ok (.lstore_n 0, 1) := by decide +kernel
theorem dJ13_bitCount_95d88_41 : decode cJ13_bitCount_95d88 41 = .ok (.lload_n 0, 1) := by decide +kernel
theorem dJ13_bitCount_95d88_42 : decode cJ13_bitCount_95d88 42 = .ok (.lload_n 0, 1) := by decide +kernel
theorem dJ13_bitCount_95d88_43 : decode cJ13_bitCount_95d88 43 = .ok (.bipush 16, 2) := by decide +kernel
theorem dJ13_bitCount_95d88_45 : decode cJ13_bitCount_95d88 45 = .ok (.lushr, 1) := by decide +kernel
theorem dJ13_bitCount_95d88_46 : decode cJ13_bitCount_95d88 46 = .ok (.ladd, 1) := by decide +kernel
theorem dJ13_bitCount_95d88_47 : decode cJ13_bitCount_95d88 47 = .ok (.lstore_n 0, 1) := by decide +kernel
theorem dJ13_bitCount_95d88_48 : decode cJ13_bitCount_95d88 48 = .ok (.lload_n 0, 1) := by decide +kernel
theorem dJ13_bitCount_95d88_49 : decode cJ13_bitCount_95d88 49 = .ok (.lload_n 0, 1) := by decide +kernel
theorem dJ13_bitCount_95d88_50 : decode cJ13_bitCount_95d88 50 = .ok (.bipush 32, 2) := by decide +kernel
theorem dJ13_bitCount_95d88_52 : decode cJ13_bitCount_95d88 52 = .ok (.lushr, 1) := by decide +kernel
theorem dJ13_bitCount_95d88_53 : decode cJ13_bitCount_95d88 53 = .ok (.ladd, 1) := by decide +kernel
theorem dJ13_bitCount_95d88_54 : decode cJ13_bitCount_95d88 54 = .ok (.lstore_n 0, 1) := by decide +kernel
theorem dJ13_bitCount_95d88_55 : decode cJ13_bitCount_95d88 55 = .ok (.lload_n 0, 1) := by decide +kernel
theorem dJ13_bitCount_95d88_56 : decode cJ13_bitCount_95d88 56 = .ok (.l2i, 1) := by decide +kernel
theorem dJ13_bitCount_95d88_57 : decode cJ13_bitCount_95d88 57 = .ok (.bipush 127, 2) := by decide +kernel
theorem dJ13_bitCount_95d88_59 : decode cJ13_bitCount_95d88 59 = .ok (.iand, 1) := by decide +kernel
theorem dJ13_bitCount_95d88_60 : decode cJ13_bitCount_95d88 60 = .ok (.ireturn, 1) := by decide +kernel
set_option maxRecDepth 100000 in
set_option maxHeartbeats 4000000 in
theorem sp_J13_bitCount_95d88 {G : vG} {l : Launch} (w : VW) (a : Int64) : Sp G l yJ13_bitCount_95d88 cJ13_bitCount_95d88 2 (some .int) 0 0 0 [.long a] w (QI (fun _ w2 => w2 = w)) := by
  refine Sp_of_R [(some (.long a)), none] [] rfl (by simp) rfl (Nat.le_of_ble_eq_true rfl) ?_
  refine R_lload_n (pc := 0) dJ13_bitCount_95d88_0 rfl rfl ?_
  refine R_lload_n (pc := 1) dJ13_bitCount_95d88_1 rfl rfl ?_
  refine R_iconst (pc := 2) (v := 1) dJ13_bitCount_95d88_2 (by decide) ?_
  refine R_lushr (pc := 3) dJ13_bitCount_95d88_3 ?_
  refine R_ldc2 (pc := 4) w_382c dJ13_bitCount_95d88_4 ?_
  refine R_land (pc := 7) dJ13_bitCount_95d88_7 ?_
  refine R_lsub (pc := 8) dJ13_bitCount_95d88_8 ?_
  refine st_2_0_l_x (pc := 9) dJ13_bitCount_95d88_9 ?_
  refine R_lload_n (pc := 10) dJ13_bitCount_95d88_10 rfl rfl ?_
  refine R_ldc2 (pc := 11) w_383c dJ13_bitCount_95d88_11 ?_
  refine R_land (pc := 14) dJ13_bitCount_95d88_14 ?_
  refine R_lload_n (pc := 15) dJ13_bitCount_95d88_15 rfl rfl ?_
  refine R_iconst (pc := 16) (v := 2) dJ13_bitCount_95d88_16 (by decide) ?_
  refine R_lushr (pc := 17) dJ13_bitCount_95d88_17 ?_
  refine R_ldc2 (pc := 18) w_383c dJ13_bitCount_95d88_18 ?_
  refine R_land (pc := 21) dJ13_bitCount_95d88_21 ?_
  refine R_ladd (pc := 22) dJ13_bitCount_95d88_22 ?_
  refine st_2_0_l_x (pc := 23) dJ13_bitCount_95d88_23 ?_
  refine R_lload_n (pc := 24) dJ13_bitCount_95d88_24 rfl rfl ?_
  refine R_lload_n (pc := 25) dJ13_bitCount_95d88_25 rfl rfl ?_
  refine R_iconst (pc := 26) (v := 4) dJ13_bitCount_95d88_26 (by decide) ?_
  refine R_lushr (pc := 27) dJ13_bitCount_95d88_27 ?_
  refine R_ladd (pc := 28) dJ13_bitCount_95d88_28 ?_
  refine R_ldc2 (pc := 29) w_384c dJ13_bitCount_95d88_29 ?_
  refine R_land (pc := 32) dJ13_bitCount_95d88_32 ?_
  refine st_2_0_l_x (pc := 33) dJ13_bitCount_95d88_33 ?_
  refine R_lload_n (pc := 34) dJ13_bitCount_95d88_34 rfl rfl ?_
  refine R_lload_n (pc := 35) dJ13_bitCount_95d88_35 rfl rfl ?_
  refine R_bipush (pc := 36) (v := 8) dJ13_bitCount_95d88_36 (by decide) ?_
  refine R_lushr (pc := 38) dJ13_bitCount_95d88_38 ?_
  refine R_ladd (pc := 39) dJ13_bitCount_95d88_39 ?_
  refine st_2_0_l_x (pc := 40) dJ13_bitCount_95d88_40 ?_
  refine R_lload_n (pc := 41) dJ13_bitCount_95d88_41 rfl rfl ?_
  refine R_lload_n (pc := 42) dJ13_bitCount_95d88_42 rfl rfl ?_
  refine R_bipush (pc := 43) (v := 16) dJ13_bitCount_95d88_43 (by decide) ?_
  refine R_lushr (pc := 45) dJ13_bitCount_95d88_45 ?_
  refine R_ladd (pc := 46) dJ13_bitCount_95d88_46 ?_
  refine st_2_0_l_x (pc := 47) dJ13_bitCount_95d88_47 ?_
  refine R_lload_n (pc := 48) dJ13_bitCount_95d88_48 rfl rfl ?_
  refine R_lload_n (pc := 49) dJ13_bitCount_95d88_49 rfl rfl ?_
  refine R_bipush (pc := 50) (v := 32) dJ13_bitCount_95d88_50 (by decide) ?_
  refine R_lushr (pc := 52) dJ13_bitCount_95d88_52 ?_
  refine R_ladd (pc := 53) dJ13_bitCount_95d88_53 ?_
  refine st_2_0_l_x (pc := 54) dJ13_bitCount_95d88_54 ?_
  refine R_lload_n (pc := 55) dJ13_bitCount_95d88_55 rfl rfl ?_
  refine R_l2i (pc := 56) dJ13_bitCount_95d88_56 ?_
  refine R_bipush (pc := 57) (v := 127) dJ13_bitCount_95d88_57 (by decide) ?_
  refine R_iand (pc := 59) dJ13_bitCount_95d88_59 ?_
  exact R_iret (pc := 60) dJ13_bitCount_95d88_60 rfl rfl (Nat.zero_le _) (Nat.zero_le _) ⟨_, rfl, rfl⟩
end
