-- ===== PART A: goes FIRST, ahead of the names: the tables' words, and 'selects' of the private methods out of them =====
/-- a private method of a class that the tables say can be made, by its rows of tables_1 -/
def lw_okq (q : MethodName × Nat) : Prop := (q.1.cls ≠ "java/lang/invoke/MethodHandle" ∧ q.1.cls ≠ "java/lang/invoke/VarHandle") ∧ Cond.instantiable q.1.cls q.2 ∈ tables_1 ∧ Cond.privateMethod q.1 ∈ tables_1 ∧ Cond.instanceMethod q.1 ∈ tables_1
theorem lw_p0 : lw_okq (⟨"FlexGrid", "isText", "(I)Z"⟩, 9) := ⟨⟨by decide +kernel, by decide +kernel⟩, List.mem_of_getElem? (i := 20) (by decide +kernel), List.mem_of_getElem? (i := 421) (by decide +kernel), List.mem_of_getElem? (i := 422) (by decide +kernel)⟩
theorem lw_p1 : lw_okq (⟨"FlexGrid$Reader", "readClause", "()V"⟩, 9) := ⟨⟨by decide +kernel, by decide +kernel⟩, List.mem_of_getElem? (i := 45) (by decide +kernel), List.mem_of_getElem? (i := 430) (by decide +kernel), List.mem_of_getElem? (i := 431) (by decide +kernel)⟩
theorem lw_p2 : lw_okq (⟨"FlexGrid$Reader", "wordFrom", "(I)I"⟩, 9) := ⟨⟨by decide +kernel, by decide +kernel⟩, List.mem_of_getElem? (i := 45) (by decide +kernel), List.mem_of_getElem? (i := 434) (by decide +kernel), List.mem_of_getElem? (i := 435) (by decide +kernel)⟩
theorem lw_p3 : lw_okq (⟨"FlexGrid$Reader", "isWord", "(ILjava/lang/String;)Z"⟩, 9) := ⟨⟨by decide +kernel, by decide +kernel⟩, List.mem_of_getElem? (i := 45) (by decide +kernel), List.mem_of_getElem? (i := 464) (by decide +kernel), List.mem_of_getElem? (i := 465) (by decide +kernel)⟩
theorem lw_p4 : lw_okq (⟨"FlexGrid$Reader", "blame", "(II)V"⟩, 9) := ⟨⟨by decide +kernel, by decide +kernel⟩, List.mem_of_getElem? (i := 45) (by decide +kernel), List.mem_of_getElem? (i := 516) (by decide +kernel), List.mem_of_getElem? (i := 517) (by decide +kernel)⟩
theorem lw_p5 : lw_okq (⟨"FlexGrid$Reader", "readNumber", "(II)V"⟩, 9) := ⟨⟨by decide +kernel, by decide +kernel⟩, List.mem_of_getElem? (i := 45) (by decide +kernel), List.mem_of_getElem? (i := 520) (by decide +kernel), List.mem_of_getElem? (i := 521) (by decide +kernel)⟩
theorem lw_p6 : lw_okq (⟨"FlexGrid$Reader", "gridFault", "(III)I"⟩, 9) := ⟨⟨by decide +kernel, by decide +kernel⟩, List.mem_of_getElem? (i := 45) (by decide +kernel), List.mem_of_getElem? (i := 524) (by decide +kernel), List.mem_of_getElem? (i := 525) (by decide +kernel)⟩
theorem lw_p7 : lw_okq (⟨"FlexGrid$Reader", "linkFault", "(II)I"⟩, 9) := ⟨⟨by decide +kernel, by decide +kernel⟩, List.mem_of_getElem? (i := 45) (by decide +kernel), List.mem_of_getElem? (i := 528) (by decide +kernel), List.mem_of_getElem? (i := 529) (by decide +kernel)⟩
theorem lw_p8 : lw_okq (⟨"FlexGrid$Reader", "stepFault", "(III)I"⟩, 9) := ⟨⟨by decide +kernel, by decide +kernel⟩, List.mem_of_getElem? (i := 45) (by decide +kernel), List.mem_of_getElem? (i := 540) (by decide +kernel), List.mem_of_getElem? (i := 541) (by decide +kernel)⟩
theorem lw_p9 : lw_okq (⟨"FlexGrid", "stepIsDone", "(I)Z"⟩, 9) := ⟨⟨by decide +kernel, by decide +kernel⟩, List.mem_of_getElem? (i := 20) (by decide +kernel), List.mem_of_getElem? (i := 575) (by decide +kernel), List.mem_of_getElem? (i := 576) (by decide +kernel)⟩
theorem lw_p10 : lw_okq (⟨"FlexGrid", "isWish", "(III)Z"⟩, 9) := ⟨⟨by decide +kernel, by decide +kernel⟩, List.mem_of_getElem? (i := 20) (by decide +kernel), List.mem_of_getElem? (i := 591) (by decide +kernel), List.mem_of_getElem? (i := 592) (by decide +kernel)⟩
theorem lw_p11 : lw_okq (⟨"FlexGrid", "arePlaces", "(II)Z"⟩, 9) := ⟨⟨by decide +kernel, by decide +kernel⟩, List.mem_of_getElem? (i := 20) (by decide +kernel), List.mem_of_getElem? (i := 595) (by decide +kernel), List.mem_of_getElem? (i := 596) (by decide +kernel)⟩
theorem lw_p12 : lw_okq (⟨"FlexGrid$Ways", "offer", "(III)V"⟩, 8) := ⟨⟨by decide +kernel, by decide +kernel⟩, List.mem_of_getElem? (i := 150) (by decide +kernel), List.mem_of_getElem? (i := 617) (by decide +kernel), List.mem_of_getElem? (i := 618) (by decide +kernel)⟩
theorem lw_p13 : lw_okq (⟨"FlexGrid$Finder", "weighRows", "(LFlexGrid$State;IIIJ)V"⟩, 6) := ⟨⟨by decide +kernel, by decide +kernel⟩, List.mem_of_getElem? (i := 144) (by decide +kernel), List.mem_of_getElem? (i := 645) (by decide +kernel), List.mem_of_getElem? (i := 646) (by decide +kernel)⟩
theorem lw_p14 : lw_okq (⟨"FlexGrid$Finder", "choose", "(IIII)V"⟩, 6) := ⟨⟨by decide +kernel, by decide +kernel⟩, List.mem_of_getElem? (i := 144) (by decide +kernel), List.mem_of_getElem? (i := 662) (by decide +kernel), List.mem_of_getElem? (i := 663) (by decide +kernel)⟩
theorem lw_p15 : lw_okq (⟨"FlexGrid", "slideDown", "(I)I"⟩, 9) := ⟨⟨by decide +kernel, by decide +kernel⟩, List.mem_of_getElem? (i := 20) (by decide +kernel), List.mem_of_getElem? (i := 699) (by decide +kernel), List.mem_of_getElem? (i := 700) (by decide +kernel)⟩
def lw_privs_1 : List (MethodName × Nat) := [(⟨"FlexGrid", "isText", "(I)Z"⟩, 9), (⟨"FlexGrid$Reader", "readClause", "()V"⟩, 9), (⟨"FlexGrid$Reader", "wordFrom", "(I)I"⟩, 9), (⟨"FlexGrid$Reader", "isWord", "(ILjava/lang/String;)Z"⟩, 9), (⟨"FlexGrid$Reader", "blame", "(II)V"⟩, 9), (⟨"FlexGrid$Reader", "readNumber", "(II)V"⟩, 9), (⟨"FlexGrid$Reader", "gridFault", "(III)I"⟩, 9), (⟨"FlexGrid$Reader", "linkFault", "(II)I"⟩, 9), (⟨"FlexGrid$Reader", "stepFault", "(III)I"⟩, 9), (⟨"FlexGrid", "stepIsDone", "(I)Z"⟩, 9), (⟨"FlexGrid", "isWish", "(III)Z"⟩, 9), (⟨"FlexGrid", "arePlaces", "(II)Z"⟩, 9), (⟨"FlexGrid$Ways", "offer", "(III)V"⟩, 8), (⟨"FlexGrid$Finder", "weighRows", "(LFlexGrid$State;IIIJ)V"⟩, 6), (⟨"FlexGrid$Finder", "choose", "(IIII)V"⟩, 6), (⟨"FlexGrid", "slideDown", "(I)I"⟩, 9)]
theorem lw_r1 : ∀ q ∈ lw_privs_1, lw_okq q := List.forall_mem_cons.mpr ⟨lw_p0, List.forall_mem_cons.mpr ⟨lw_p1, List.forall_mem_cons.mpr ⟨lw_p2, List.forall_mem_cons.mpr ⟨lw_p3, List.forall_mem_cons.mpr ⟨lw_p4, List.forall_mem_cons.mpr ⟨lw_p5, List.forall_mem_cons.mpr ⟨lw_p6, List.forall_mem_cons.mpr ⟨lw_p7, List.forall_mem_cons.mpr ⟨lw_p8, List.forall_mem_cons.mpr ⟨lw_p9, List.forall_mem_cons.mpr ⟨lw_p10, List.forall_mem_cons.mpr ⟨lw_p11, List.forall_mem_cons.mpr ⟨lw_p12, List.forall_mem_cons.mpr ⟨lw_p13, List.forall_mem_cons.mpr ⟨lw_p14, List.forall_mem_cons.mpr ⟨lw_p15, fun _ h => absurd h List.not_mem_nil⟩⟩⟩⟩⟩⟩⟩⟩⟩⟩⟩⟩⟩⟩⟩⟩
theorem lw_p16 : lw_okq (⟨"FlexGrid", "lightAll", "(LFlexGrid$State;I)I"⟩, 9) := ⟨⟨by decide +kernel, by decide +kernel⟩, List.mem_of_getElem? (i := 20) (by decide +kernel), List.mem_of_getElem? (i := 757) (by decide +kernel), List.mem_of_getElem? (i := 758) (by decide +kernel)⟩
theorem lw_p17 : lw_okq (⟨"FlexGrid$Repacking", "aim", "(I)V"⟩, 8) := ⟨⟨by decide +kernel, by decide +kernel⟩, List.mem_of_getElem? (i := 310) (by decide +kernel), List.mem_of_getElem? (i := 776) (by decide +kernel), List.mem_of_getElem? (i := 777) (by decide +kernel)⟩
theorem lw_p18 : lw_okq (⟨"FlexGrid$Repacking", "canStay", "(I)Z"⟩, 8) := ⟨⟨by decide +kernel, by decide +kernel⟩, List.mem_of_getElem? (i := 310) (by decide +kernel), List.mem_of_getElem? (i := 781) (by decide +kernel), List.mem_of_getElem? (i := 782) (by decide +kernel)⟩
theorem lw_p19 : lw_okq (⟨"FlexGrid$Repacking", "waitingFor", "(I)J"⟩, 8) := ⟨⟨by decide +kernel, by decide +kernel⟩, List.mem_of_getElem? (i := 310) (by decide +kernel), List.mem_of_getElem? (i := 793) (by decide +kernel), List.mem_of_getElem? (i := 794) (by decide +kernel)⟩
theorem lw_p20 : lw_okq (⟨"FlexGrid$Repacking", "nextFree", "()I"⟩, 8) := ⟨⟨by decide +kernel, by decide +kernel⟩, List.mem_of_getElem? (i := 310) (by decide +kernel), List.mem_of_getElem? (i := 802) (by decide +kernel), List.mem_of_getElem? (i := 803) (by decide +kernel)⟩
theorem lw_p21 : lw_okq (⟨"FlexGrid$Repacking", "waitAnewFor", "(I)V"⟩, 8) := ⟨⟨by decide +kernel, by decide +kernel⟩, List.mem_of_getElem? (i := 310) (by decide +kernel), List.mem_of_getElem? (i := 808) (by decide +kernel), List.mem_of_getElem? (i := 809) (by decide +kernel)⟩
theorem lw_p22 : lw_okq (⟨"FlexGrid", "longestFree", "(I)I"⟩, 9) := ⟨⟨by decide +kernel, by decide +kernel⟩, List.mem_of_getElem? (i := 20) (by decide +kernel), List.mem_of_getElem? (i := 880) (by decide +kernel), List.mem_of_getElem? (i := 881) (by decide +kernel)⟩
theorem lw_p23 : lw_okq (⟨"FlexGrid", "freeRows", "(I)I"⟩, 9) := ⟨⟨by decide +kernel, by decide +kernel⟩, List.mem_of_getElem? (i := 20) (by decide +kernel), List.mem_of_getElem? (i := 885) (by decide +kernel), List.mem_of_getElem? (i := 886) (by decide +kernel)⟩
theorem lw_p24 : lw_okq (⟨"FlexGrid", "torn", "(I)I"⟩, 9) := ⟨⟨by decide +kernel, by decide +kernel⟩, List.mem_of_getElem? (i := 20) (by decide +kernel), List.mem_of_getElem? (i := 889) (by decide +kernel), List.mem_of_getElem? (i := 890) (by decide +kernel)⟩
theorem lw_p25 : lw_okq (⟨"FlexGrid", "litDemandIs", "(II)I"⟩, 9) := ⟨⟨by decide +kernel, by decide +kernel⟩, List.mem_of_getElem? (i := 20) (by decide +kernel), List.mem_of_getElem? (i := 901) (by decide +kernel), List.mem_of_getElem? (i := 902) (by decide +kernel)⟩
theorem lw_p26 : lw_okq (⟨"FlexGrid$Repacking", "parkOne", "()Z"⟩, 8) := ⟨⟨by decide +kernel, by decide +kernel⟩, List.mem_of_getElem? (i := 310) (by decide +kernel), List.mem_of_getElem? (i := 966) (by decide +kernel), List.mem_of_getElem? (i := 967) (by decide +kernel)⟩
theorem lw_p27 : lw_okq (⟨"FlexGrid$Trial", "endThoseOf", "(I)V"⟩, 7) := ⟨⟨by decide +kernel, by decide +kernel⟩, List.mem_of_getElem? (i := 349) (by decide +kernel), List.mem_of_getElem? (i := 985) (by decide +kernel), List.mem_of_getElem? (i := 986) (by decide +kernel)⟩
theorem lw_p28 : lw_okq (⟨"FlexGrid$Trial", "askAt", "(III)V"⟩, 7) := ⟨⟨by decide +kernel, by decide +kernel⟩, List.mem_of_getElem? (i := 349) (by decide +kernel), List.mem_of_getElem? (i := 990) (by decide +kernel), List.mem_of_getElem? (i := 991) (by decide +kernel)⟩
theorem lw_p29 : lw_okq (⟨"FlexGrid$Trial", "draw", "(I)I"⟩, 7) := ⟨⟨by decide +kernel, by decide +kernel⟩, List.mem_of_getElem? (i := 349) (by decide +kernel), List.mem_of_getElem? (i := 995) (by decide +kernel), List.mem_of_getElem? (i := 996) (by decide +kernel)⟩
theorem lw_p30 : lw_okq (⟨"FlexGrid", "greatestFitting", "(IIII)I"⟩, 9) := ⟨⟨by decide +kernel, by decide +kernel⟩, List.mem_of_getElem? (i := 20) (by decide +kernel), List.mem_of_getElem? (i := 1014) (by decide +kernel), List.mem_of_getElem? (i := 1015) (by decide +kernel)⟩
theorem lw_p31 : lw_okq (⟨"FlexGrid", "firstByte", "(I)I"⟩, 9) := ⟨⟨by decide +kernel, by decide +kernel⟩, List.mem_of_getElem? (i := 20) (by decide +kernel), List.mem_of_getElem? (i := 1036) (by decide +kernel), List.mem_of_getElem? (i := 1037) (by decide +kernel)⟩
def lw_privs_2 : List (MethodName × Nat) := [(⟨"FlexGrid", "lightAll", "(LFlexGrid$State;I)I"⟩, 9), (⟨"FlexGrid$Repacking", "aim", "(I)V"⟩, 8), (⟨"FlexGrid$Repacking", "canStay", "(I)Z"⟩, 8), (⟨"FlexGrid$Repacking", "waitingFor", "(I)J"⟩, 8), (⟨"FlexGrid$Repacking", "nextFree", "()I"⟩, 8), (⟨"FlexGrid$Repacking", "waitAnewFor", "(I)V"⟩, 8), (⟨"FlexGrid", "longestFree", "(I)I"⟩, 9), (⟨"FlexGrid", "freeRows", "(I)I"⟩, 9), (⟨"FlexGrid", "torn", "(I)I"⟩, 9), (⟨"FlexGrid", "litDemandIs", "(II)I"⟩, 9), (⟨"FlexGrid$Repacking", "parkOne", "()Z"⟩, 8), (⟨"FlexGrid$Trial", "endThoseOf", "(I)V"⟩, 7), (⟨"FlexGrid$Trial", "askAt", "(III)V"⟩, 7), (⟨"FlexGrid$Trial", "draw", "(I)I"⟩, 7), (⟨"FlexGrid", "greatestFitting", "(IIII)I"⟩, 9), (⟨"FlexGrid", "firstByte", "(I)I"⟩, 9)]
theorem lw_r2 : ∀ q ∈ lw_privs_2, lw_okq q := List.forall_mem_cons.mpr ⟨lw_p16, List.forall_mem_cons.mpr ⟨lw_p17, List.forall_mem_cons.mpr ⟨lw_p18, List.forall_mem_cons.mpr ⟨lw_p19, List.forall_mem_cons.mpr ⟨lw_p20, List.forall_mem_cons.mpr ⟨lw_p21, List.forall_mem_cons.mpr ⟨lw_p22, List.forall_mem_cons.mpr ⟨lw_p23, List.forall_mem_cons.mpr ⟨lw_p24, List.forall_mem_cons.mpr ⟨lw_p25, List.forall_mem_cons.mpr ⟨lw_p26, List.forall_mem_cons.mpr ⟨lw_p27, List.forall_mem_cons.mpr ⟨lw_p28, List.forall_mem_cons.mpr ⟨lw_p29, List.forall_mem_cons.mpr ⟨lw_p30, List.forall_mem_cons.mpr ⟨lw_p31, fun _ h => absurd h List.not_mem_nil⟩⟩⟩⟩⟩⟩⟩⟩⟩⟩⟩⟩⟩⟩⟩⟩
theorem lw_p32 : lw_okq (⟨"FlexGridModel", "begins", "()V"⟩, 45) := ⟨⟨by decide +kernel, by decide +kernel⟩, List.mem_of_getElem? (i := 1044) (by decide +kernel), List.mem_of_getElem? (i := 1050) (by decide +kernel), List.mem_of_getElem? (i := 1051) (by decide +kernel)⟩
theorem lw_p33 : lw_okq (⟨"FlexGridModel", "takesDraft", "()V"⟩, 45) := ⟨⟨by decide +kernel, by decide +kernel⟩, List.mem_of_getElem? (i := 1044) (by decide +kernel), List.mem_of_getElem? (i := 1054) (by decide +kernel), List.mem_of_getElem? (i := 1055) (by decide +kernel)⟩
theorem lw_p34 : lw_okq (⟨"FlexGridModel", "types", "(I)V"⟩, 45) := ⟨⟨by decide +kernel, by decide +kernel⟩, List.mem_of_getElem? (i := 1044) (by decide +kernel), List.mem_of_getElem? (i := 1199) (by decide +kernel), List.mem_of_getElem? (i := 1200) (by decide +kernel)⟩
theorem lw_p35 : lw_okq (⟨"FlexGridModel", "beginsText", "(I)Z"⟩, 45) := ⟨⟨by decide +kernel, by decide +kernel⟩, List.mem_of_getElem? (i := 1044) (by decide +kernel), List.mem_of_getElem? (i := 1207) (by decide +kernel), List.mem_of_getElem? (i := 1208) (by decide +kernel)⟩
theorem lw_p36 : lw_okq (⟨"FlexGridModel", "readsClause", "()Z"⟩, 45) := ⟨⟨by decide +kernel, by decide +kernel⟩, List.mem_of_getElem? (i := 1044) (by decide +kernel), List.mem_of_getElem? (i := 1214) (by decide +kernel), List.mem_of_getElem? (i := 1215) (by decide +kernel)⟩
theorem lw_p37 : lw_okq (⟨"FlexGridModel", "wrongAt", "(II)Z"⟩, 45) := ⟨⟨by decide +kernel, by decide +kernel⟩, List.mem_of_getElem? (i := 1044) (by decide +kernel), List.mem_of_getElem? (i := 1218) (by decide +kernel), List.mem_of_getElem? (i := 1219) (by decide +kernel)⟩
theorem lw_p38 : lw_okq (⟨"FlexGridModel", "readsWord", "()V"⟩, 45) := ⟨⟨by decide +kernel, by decide +kernel⟩, List.mem_of_getElem? (i := 1044) (by decide +kernel), List.mem_of_getElem? (i := 1222) (by decide +kernel), List.mem_of_getElem? (i := 1223) (by decide +kernel)⟩
theorem lw_p39 : lw_okq (⟨"FlexGridModel", "here", "()I"⟩, 45) := ⟨⟨by decide +kernel, by decide +kernel⟩, List.mem_of_getElem? (i := 1044) (by decide +kernel), List.mem_of_getElem? (i := 1226) (by decide +kernel), List.mem_of_getElem? (i := 1227) (by decide +kernel)⟩
theorem lw_p40 : lw_okq (⟨"FlexGridModel", "readsLink", "()Z"⟩, 45) := ⟨⟨by decide +kernel, by decide +kernel⟩, List.mem_of_getElem? (i := 1044) (by decide +kernel), List.mem_of_getElem? (i := 1234) (by decide +kernel), List.mem_of_getElem? (i := 1235) (by decide +kernel)⟩
theorem lw_p41 : lw_okq (⟨"FlexGridModel", "readsNumber", "(II)Z"⟩, 45) := ⟨⟨by decide +kernel, by decide +kernel⟩, List.mem_of_getElem? (i := 1044) (by decide +kernel), List.mem_of_getElem? (i := 1238) (by decide +kernel), List.mem_of_getElem? (i := 1239) (by decide +kernel)⟩
theorem lw_p42 : lw_okq (⟨"FlexGridModel", "takesSign", "(I)Z"⟩, 45) := ⟨⟨by decide +kernel, by decide +kernel⟩, List.mem_of_getElem? (i := 1044) (by decide +kernel), List.mem_of_getElem? (i := 1242) (by decide +kernel), List.mem_of_getElem? (i := 1243) (by decide +kernel)⟩
theorem lw_p43 : lw_okq (⟨"FlexGridModel", "isLinkedInDraft", "(II)Z"⟩, 45) := ⟨⟨by decide +kernel, by decide +kernel⟩, List.mem_of_getElem? (i := 1044) (by decide +kernel), List.mem_of_getElem? (i := 1249) (by decide +kernel), List.mem_of_getElem? (i := 1250) (by decide +kernel)⟩
theorem lw_p44 : lw_okq (⟨"FlexGridModel", "readsReach", "()Z"⟩, 45) := ⟨⟨by decide +kernel, by decide +kernel⟩, List.mem_of_getElem? (i := 1044) (by decide +kernel), List.mem_of_getElem? (i := 1254) (by decide +kernel), List.mem_of_getElem? (i := 1255) (by decide +kernel)⟩
theorem lw_p45 : lw_okq (⟨"FlexGridModel", "readsNodes", "()Z"⟩, 45) := ⟨⟨by decide +kernel, by decide +kernel⟩, List.mem_of_getElem? (i := 1044) (by decide +kernel), List.mem_of_getElem? (i := 1259) (by decide +kernel), List.mem_of_getElem? (i := 1260) (by decide +kernel)⟩
theorem lw_p46 : lw_okq (⟨"FlexGridModel", "keepsNumber", "(I)Z"⟩, 45) := ⟨⟨by decide +kernel, by decide +kernel⟩, List.mem_of_getElem? (i := 1044) (by decide +kernel), List.mem_of_getElem? (i := 1264) (by decide +kernel), List.mem_of_getElem? (i := 1265) (by decide +kernel)⟩
theorem lw_p47 : lw_okq (⟨"FlexGridModel", "areNodes", "(II)Z"⟩, 45) := ⟨⟨by decide +kernel, by decide +kernel⟩, List.mem_of_getElem? (i := 1044) (by decide +kernel), List.mem_of_getElem? (i := 1273) (by decide +kernel), List.mem_of_getElem? (i := 1274) (by decide +kernel)⟩
def lw_privs_3 : List (MethodName × Nat) := [(⟨"FlexGridModel", "begins", "()V"⟩, 45), (⟨"FlexGridModel", "takesDraft", "()V"⟩, 45), (⟨"FlexGridModel", "types", "(I)V"⟩, 45), (⟨"FlexGridModel", "beginsText", "(I)Z"⟩, 45), (⟨"FlexGridModel", "readsClause", "()Z"⟩, 45), (⟨"FlexGridModel", "wrongAt", "(II)Z"⟩, 45), (⟨"FlexGridModel", "readsWord", "()V"⟩, 45), (⟨"FlexGridModel", "here", "()I"⟩, 45), (⟨"FlexGridModel", "readsLink", "()Z"⟩, 45), (⟨"FlexGridModel", "readsNumber", "(II)Z"⟩, 45), (⟨"FlexGridModel", "takesSign", "(I)Z"⟩, 45), (⟨"FlexGridModel", "isLinkedInDraft", "(II)Z"⟩, 45), (⟨"FlexGridModel", "readsReach", "()Z"⟩, 45), (⟨"FlexGridModel", "readsNodes", "()Z"⟩, 45), (⟨"FlexGridModel", "keepsNumber", "(I)Z"⟩, 45), (⟨"FlexGridModel", "areNodes", "(II)Z"⟩, 45)]
theorem lw_r3 : ∀ q ∈ lw_privs_3, lw_okq q := List.forall_mem_cons.mpr ⟨lw_p32, List.forall_mem_cons.mpr ⟨lw_p33, List.forall_mem_cons.mpr ⟨lw_p34, List.forall_mem_cons.mpr ⟨lw_p35, List.forall_mem_cons.mpr ⟨lw_p36, List.forall_mem_cons.mpr ⟨lw_p37, List.forall_mem_cons.mpr ⟨lw_p38, List.forall_mem_cons.mpr ⟨lw_p39, List.forall_mem_cons.mpr ⟨lw_p40, List.forall_mem_cons.mpr ⟨lw_p41, List.forall_mem_cons.mpr ⟨lw_p42, List.forall_mem_cons.mpr ⟨lw_p43, List.forall_mem_cons.mpr ⟨lw_p44, List.forall_mem_cons.mpr ⟨lw_p45, List.forall_mem_cons.mpr ⟨lw_p46, List.forall_mem_cons.mpr ⟨lw_p47, fun _ h => absurd h List.not_mem_nil⟩⟩⟩⟩⟩⟩⟩⟩⟩⟩⟩⟩⟩⟩⟩⟩
theorem lw_p48 : lw_okq (⟨"FlexGridModel", "findsWays", "(II)V"⟩, 45) := ⟨⟨by decide +kernel, by decide +kernel⟩, List.mem_of_getElem? (i := 1044) (by decide +kernel), List.mem_of_getElem? (i := 1277) (by decide +kernel), List.mem_of_getElem? (i := 1278) (by decide +kernel)⟩
theorem lw_p49 : lw_okq (⟨"FlexGridModel", "beyond", "(II)I"⟩, 45) := ⟨⟨by decide +kernel, by decide +kernel⟩, List.mem_of_getElem? (i := 1044) (by decide +kernel), List.mem_of_getElem? (i := 1281) (by decide +kernel), List.mem_of_getElem? (i := 1282) (by decide +kernel)⟩
theorem lw_p50 : lw_okq (⟨"FlexGridModel", "isUp", "(I)Z"⟩, 45) := ⟨⟨by decide +kernel, by decide +kernel⟩, List.mem_of_getElem? (i := 1044) (by decide +kernel), List.mem_of_getElem? (i := 1285) (by decide +kernel), List.mem_of_getElem? (i := 1286) (by decide +kernel)⟩
theorem lw_p51 : lw_okq (⟨"FlexGridModel", "laysWay", "(III)V"⟩, 45) := ⟨⟨by decide +kernel, by decide +kernel⟩, List.mem_of_getElem? (i := 1044) (by decide +kernel), List.mem_of_getElem? (i := 1292) (by decide +kernel), List.mem_of_getElem? (i := 1293) (by decide +kernel)⟩
theorem lw_p52 : lw_okq (⟨"FlexGridModel", "ranks", "(I)V"⟩, 45) := ⟨⟨by decide +kernel, by decide +kernel⟩, List.mem_of_getElem? (i := 1044) (by decide +kernel), List.mem_of_getElem? (i := 1296) (by decide +kernel), List.mem_of_getElem? (i := 1297) (by decide +kernel)⟩
theorem lw_p53 : lw_okq (⟨"FlexGridModel", "isAhead", "(II)Z"⟩, 45) := ⟨⟨by decide +kernel, by decide +kernel⟩, List.mem_of_getElem? (i := 1044) (by decide +kernel), List.mem_of_getElem? (i := 1300) (by decide +kernel), List.mem_of_getElem? (i := 1301) (by decide +kernel)⟩
theorem lw_p54 : lw_okq (⟨"FlexGridModel", "formatBy", "(I)I"⟩, 45) := ⟨⟨by decide +kernel, by decide +kernel⟩, List.mem_of_getElem? (i := 1044) (by decide +kernel), List.mem_of_getElem? (i := 1310) (by decide +kernel), List.mem_of_getElem? (i := 1311) (by decide +kernel)⟩
theorem lw_p55 : lw_okq (⟨"FlexGridModel", "isAsked", "(IIII)Z"⟩, 45) := ⟨⟨by decide +kernel, by decide +kernel⟩, List.mem_of_getElem? (i := 1044) (by decide +kernel), List.mem_of_getElem? (i := 1318) (by decide +kernel), List.mem_of_getElem? (i := 1319) (by decide +kernel)⟩
theorem lw_p56 : lw_okq (⟨"FlexGridModel", "findsFor", "(IIII)Z"⟩, 45) := ⟨⟨by decide +kernel, by decide +kernel⟩, List.mem_of_getElem? (i := 1044) (by decide +kernel), List.mem_of_getElem? (i := 1328) (by decide +kernel), List.mem_of_getElem? (i := 1329) (by decide +kernel)⟩
theorem lw_p57 : lw_okq (⟨"FlexGridModel", "finds", "(II)Z"⟩, 45) := ⟨⟨by decide +kernel, by decide +kernel⟩, List.mem_of_getElem? (i := 1044) (by decide +kernel), List.mem_of_getElem? (i := 1332) (by decide +kernel), List.mem_of_getElem? (i := 1333) (by decide +kernel)⟩
theorem lw_p58 : lw_okq (⟨"FlexGridModel", "widthOn", "(II)I"⟩, 45) := ⟨⟨by decide +kernel, by decide +kernel⟩, List.mem_of_getElem? (i := 1044) (by decide +kernel), List.mem_of_getElem? (i := 1337) (by decide +kernel), List.mem_of_getElem? (i := 1338) (by decide +kernel)⟩
theorem lw_p59 : lw_okq (⟨"FlexGridModel", "fits", "(IIII)Z"⟩, 45) := ⟨⟨by decide +kernel, by decide +kernel⟩, List.mem_of_getElem? (i := 1044) (by decide +kernel), List.mem_of_getElem? (i := 1341) (by decide +kernel), List.mem_of_getElem? (i := 1342) (by decide +kernel)⟩
theorem lw_p60 : lw_okq (⟨"FlexGridModel", "against", "(IIII)I"⟩, 45) := ⟨⟨by decide +kernel, by decide +kernel⟩, List.mem_of_getElem? (i := 1044) (by decide +kernel), List.mem_of_getElem? (i := 1345) (by decide +kernel), List.mem_of_getElem? (i := 1346) (by decide +kernel)⟩
theorem lw_p61 : lw_okq (⟨"FlexGridModel", "isLit", "(I)Z"⟩, 45) := ⟨⟨by decide +kernel, by decide +kernel⟩, List.mem_of_getElem? (i := 1044) (by decide +kernel), List.mem_of_getElem? (i := 1349) (by decide +kernel), List.mem_of_getElem? (i := 1350) (by decide +kernel)⟩
theorem lw_p62 : lw_okq (⟨"FlexGridModel", "of", "(II)I"⟩, 45) := ⟨⟨by decide +kernel, by decide +kernel⟩, List.mem_of_getElem? (i := 1044) (by decide +kernel), List.mem_of_getElem? (i := 1353) (by decide +kernel), List.mem_of_getElem? (i := 1354) (by decide +kernel)⟩
theorem lw_p63 : lw_okq (⟨"FlexGridModel", "keepsFrom", "(IIII)Z"⟩, 45) := ⟨⟨by decide +kernel, by decide +kernel⟩, List.mem_of_getElem? (i := 1044) (by decide +kernel), List.mem_of_getElem? (i := 1357) (by decide +kernel), List.mem_of_getElem? (i := 1358) (by decide +kernel)⟩
def lw_privs_4 : List (MethodName × Nat) := [(⟨"FlexGridModel", "findsWays", "(II)V"⟩, 45), (⟨"FlexGridModel", "beyond", "(II)I"⟩, 45), (⟨"FlexGridModel", "isUp", "(I)Z"⟩, 45), (⟨"FlexGridModel", "laysWay", "(III)V"⟩, 45), (⟨"FlexGridModel", "ranks", "(I)V"⟩, 45), (⟨"FlexGridModel", "isAhead", "(II)Z"⟩, 45), (⟨"FlexGridModel", "formatBy", "(I)I"⟩, 45), (⟨"FlexGridModel", "isAsked", "(IIII)Z"⟩, 45), (⟨"FlexGridModel", "findsFor", "(IIII)Z"⟩, 45), (⟨"FlexGridModel", "finds", "(II)Z"⟩, 45), (⟨"FlexGridModel", "widthOn", "(II)I"⟩, 45), (⟨"FlexGridModel", "fits", "(IIII)Z"⟩, 45), (⟨"FlexGridModel", "against", "(IIII)I"⟩, 45), (⟨"FlexGridModel", "isLit", "(I)Z"⟩, 45), (⟨"FlexGridModel", "of", "(II)I"⟩, 45), (⟨"FlexGridModel", "keepsFrom", "(IIII)Z"⟩, 45)]
theorem lw_r4 : ∀ q ∈ lw_privs_4, lw_okq q := List.forall_mem_cons.mpr ⟨lw_p48, List.forall_mem_cons.mpr ⟨lw_p49, List.forall_mem_cons.mpr ⟨lw_p50, List.forall_mem_cons.mpr ⟨lw_p51, List.forall_mem_cons.mpr ⟨lw_p52, List.forall_mem_cons.mpr ⟨lw_p53, List.forall_mem_cons.mpr ⟨lw_p54, List.forall_mem_cons.mpr ⟨lw_p55, List.forall_mem_cons.mpr ⟨lw_p56, List.forall_mem_cons.mpr ⟨lw_p57, List.forall_mem_cons.mpr ⟨lw_p58, List.forall_mem_cons.mpr ⟨lw_p59, List.forall_mem_cons.mpr ⟨lw_p60, List.forall_mem_cons.mpr ⟨lw_p61, List.forall_mem_cons.mpr ⟨lw_p62, List.forall_mem_cons.mpr ⟨lw_p63, fun _ h => absurd h List.not_mem_nil⟩⟩⟩⟩⟩⟩⟩⟩⟩⟩⟩⟩⟩⟩⟩⟩
theorem lw_p64 : lw_okq (⟨"FlexGridModel", "rowAbout", "(III)I"⟩, 45) := ⟨⟨by decide +kernel, by decide +kernel⟩, List.mem_of_getElem? (i := 1044) (by decide +kernel), List.mem_of_getElem? (i := 1361) (by decide +kernel), List.mem_of_getElem? (i := 1362) (by decide +kernel)⟩
theorem lw_p65 : lw_okq (⟨"FlexGridModel", "isFree", "(II)Z"⟩, 45) := ⟨⟨by decide +kernel, by decide +kernel⟩, List.mem_of_getElem? (i := 1044) (by decide +kernel), List.mem_of_getElem? (i := 1365) (by decide +kernel), List.mem_of_getElem? (i := 1366) (by decide +kernel)⟩
theorem lw_p66 : lw_okq (⟨"FlexGridModel", "comes", "(IIIZ)I"⟩, 45) := ⟨⟨by decide +kernel, by decide +kernel⟩, List.mem_of_getElem? (i := 1044) (by decide +kernel), List.mem_of_getElem? (i := 1369) (by decide +kernel), List.mem_of_getElem? (i := 1370) (by decide +kernel)⟩
theorem lw_p67 : lw_okq (⟨"FlexGridModel", "sets", "(III)V"⟩, 45) := ⟨⟨by decide +kernel, by decide +kernel⟩, List.mem_of_getElem? (i := 1044) (by decide +kernel), List.mem_of_getElem? (i := 1373) (by decide +kernel), List.mem_of_getElem? (i := 1374) (by decide +kernel)⟩
theorem lw_p68 : lw_okq (⟨"FlexGridModel", "lights", "(I)V"⟩, 45) := ⟨⟨by decide +kernel, by decide +kernel⟩, List.mem_of_getElem? (i := 1044) (by decide +kernel), List.mem_of_getElem? (i := 1377) (by decide +kernel), List.mem_of_getElem? (i := 1378) (by decide +kernel)⟩
theorem lw_p69 : lw_okq (⟨"FlexGridModel", "witnesses", "(I)I"⟩, 45) := ⟨⟨by decide +kernel, by decide +kernel⟩, List.mem_of_getElem? (i := 1044) (by decide +kernel), List.mem_of_getElem? (i := 1393) (by decide +kernel), List.mem_of_getElem? (i := 1394) (by decide +kernel)⟩
theorem lw_p70 : lw_okq (⟨"FlexGridModel", "isDemand", "(I)Z"⟩, 45) := ⟨⟨by decide +kernel, by decide +kernel⟩, List.mem_of_getElem? (i := 1044) (by decide +kernel), List.mem_of_getElem? (i := 1401) (by decide +kernel), List.mem_of_getElem? (i := 1402) (by decide +kernel)⟩
theorem lw_p71 : lw_okq (⟨"FlexGridModel", "slides", "(I)I"⟩, 45) := ⟨⟨by decide +kernel, by decide +kernel⟩, List.mem_of_getElem? (i := 1044) (by decide +kernel), List.mem_of_getElem? (i := 1409) (by decide +kernel), List.mem_of_getElem? (i := 1410) (by decide +kernel)⟩
theorem lw_p72 : lw_okq (⟨"FlexGridModel", "lowest", "(I)I"⟩, 45) := ⟨⟨by decide +kernel, by decide +kernel⟩, List.mem_of_getElem? (i := 1044) (by decide +kernel), List.mem_of_getElem? (i := 1413) (by decide +kernel), List.mem_of_getElem? (i := 1414) (by decide +kernel)⟩
theorem lw_p73 : lw_okq (⟨"FlexGridModel", "canJump", "(II)Z"⟩, 45) := ⟨⟨by decide +kernel, by decide +kernel⟩, List.mem_of_getElem? (i := 1044) (by decide +kernel), List.mem_of_getElem? (i := 1430) (by decide +kernel), List.mem_of_getElem? (i := 1431) (by decide +kernel)⟩
theorem lw_p74 : lw_okq (⟨"FlexGridModel", "isLink", "(I)Z"⟩, 45) := ⟨⟨by decide +kernel, by decide +kernel⟩, List.mem_of_getElem? (i := 1044) (by decide +kernel), List.mem_of_getElem? (i := 1438) (by decide +kernel), List.mem_of_getElem? (i := 1439) (by decide +kernel)⟩
theorem lw_p75 : lw_okq (⟨"FlexGridModel", "cuts", "(I)I"⟩, 45) := ⟨⟨by decide +kernel, by decide +kernel⟩, List.mem_of_getElem? (i := 1044) (by decide +kernel), List.mem_of_getElem? (i := 1442) (by decide +kernel), List.mem_of_getElem? (i := 1443) (by decide +kernel)⟩
theorem lw_p76 : lw_okq (⟨"FlexGridModel", "relights", "(I)I"⟩, 45) := ⟨⟨by decide +kernel, by decide +kernel⟩, List.mem_of_getElem? (i := 1044) (by decide +kernel), List.mem_of_getElem? (i := 1454) (by decide +kernel), List.mem_of_getElem? (i := 1455) (by decide +kernel)⟩
theorem lw_p77 : lw_okq (⟨"FlexGridModel", "aims", "(I)Z"⟩, 45) := ⟨⟨by decide +kernel, by decide +kernel⟩, List.mem_of_getElem? (i := 1044) (by decide +kernel), List.mem_of_getElem? (i := 1462) (by decide +kernel), List.mem_of_getElem? (i := 1463) (by decide +kernel)⟩
theorem lw_p78 : lw_okq (⟨"FlexGridModel", "copies", "(II)V"⟩, 45) := ⟨⟨by decide +kernel, by decide +kernel⟩, List.mem_of_getElem? (i := 1044) (by decide +kernel), List.mem_of_getElem? (i := 1466) (by decide +kernel), List.mem_of_getElem? (i := 1467) (by decide +kernel)⟩
theorem lw_p79 : lw_okq (⟨"FlexGridModel", "top", "()I"⟩, 45) := ⟨⟨by decide +kernel, by decide +kernel⟩, List.mem_of_getElem? (i := 1044) (by decide +kernel), List.mem_of_getElem? (i := 1470) (by decide +kernel), List.mem_of_getElem? (i := 1471) (by decide +kernel)⟩
def lw_privs_5 : List (MethodName × Nat) := [(⟨"FlexGridModel", "rowAbout", "(III)I"⟩, 45), (⟨"FlexGridModel", "isFree", "(II)Z"⟩, 45), (⟨"FlexGridModel", "comes", "(IIIZ)I"⟩, 45), (⟨"FlexGridModel", "sets", "(III)V"⟩, 45), (⟨"FlexGridModel", "lights", "(I)V"⟩, 45), (⟨"FlexGridModel", "witnesses", "(I)I"⟩, 45), (⟨"FlexGridModel", "isDemand", "(I)Z"⟩, 45), (⟨"FlexGridModel", "slides", "(I)I"⟩, 45), (⟨"FlexGridModel", "lowest", "(I)I"⟩, 45), (⟨"FlexGridModel", "canJump", "(II)Z"⟩, 45), (⟨"FlexGridModel", "isLink", "(I)Z"⟩, 45), (⟨"FlexGridModel", "cuts", "(I)I"⟩, 45), (⟨"FlexGridModel", "relights", "(I)I"⟩, 45), (⟨"FlexGridModel", "aims", "(I)Z"⟩, 45), (⟨"FlexGridModel", "copies", "(II)V"⟩, 45), (⟨"FlexGridModel", "top", "()I"⟩, 45)]
theorem lw_r5 : ∀ q ∈ lw_privs_5, lw_okq q := List.forall_mem_cons.mpr ⟨lw_p64, List.forall_mem_cons.mpr ⟨lw_p65, List.forall_mem_cons.mpr ⟨lw_p66, List.forall_mem_cons.mpr ⟨lw_p67, List.forall_mem_cons.mpr ⟨lw_p68, List.forall_mem_cons.mpr ⟨lw_p69, List.forall_mem_cons.mpr ⟨lw_p70, List.forall_mem_cons.mpr ⟨lw_p71, List.forall_mem_cons.mpr ⟨lw_p72, List.forall_mem_cons.mpr ⟨lw_p73, List.forall_mem_cons.mpr ⟨lw_p74, List.forall_mem_cons.mpr ⟨lw_p75, List.forall_mem_cons.mpr ⟨lw_p76, List.forall_mem_cons.mpr ⟨lw_p77, List.forall_mem_cons.mpr ⟨lw_p78, List.forall_mem_cons.mpr ⟨lw_p79, fun _ h => absurd h List.not_mem_nil⟩⟩⟩⟩⟩⟩⟩⟩⟩⟩⟩⟩⟩⟩⟩⟩
theorem lw_p80 : lw_okq (⟨"FlexGridModel", "topOn", "(I)I"⟩, 45) := ⟨⟨by decide +kernel, by decide +kernel⟩, List.mem_of_getElem? (i := 1044) (by decide +kernel), List.mem_of_getElem? (i := 1474) (by decide +kernel), List.mem_of_getElem? (i := 1475) (by decide +kernel)⟩
theorem lw_p81 : lw_okq (⟨"FlexGridModel", "plans", "()V"⟩, 45) := ⟨⟨by decide +kernel, by decide +kernel⟩, List.mem_of_getElem? (i := 1044) (by decide +kernel), List.mem_of_getElem? (i := 1481) (by decide +kernel), List.mem_of_getElem? (i := 1482) (by decide +kernel)⟩
theorem lw_p82 : lw_okq (⟨"FlexGridModel", "nextMove", "()I"⟩, 45) := ⟨⟨by decide +kernel, by decide +kernel⟩, List.mem_of_getElem? (i := 1044) (by decide +kernel), List.mem_of_getElem? (i := 1485) (by decide +kernel), List.mem_of_getElem? (i := 1486) (by decide +kernel)⟩
theorem lw_p83 : lw_okq (⟨"FlexGridModel", "isLeft", "(I)Z"⟩, 45) := ⟨⟨by decide +kernel, by decide +kernel⟩, List.mem_of_getElem? (i := 1044) (by decide +kernel), List.mem_of_getElem? (i := 1489) (by decide +kernel), List.mem_of_getElem? (i := 1490) (by decide +kernel)⟩
theorem lw_p84 : lw_okq (⟨"FlexGridModel", "waitsMany", "(I)I"⟩, 45) := ⟨⟨by decide +kernel, by decide +kernel⟩, List.mem_of_getElem? (i := 1044) (by decide +kernel), List.mem_of_getElem? (i := 1493) (by decide +kernel), List.mem_of_getElem? (i := 1494) (by decide +kernel)⟩
theorem lw_p85 : lw_okq (⟨"FlexGridModel", "waitsFor", "(II)Z"⟩, 45) := ⟨⟨by decide +kernel, by decide +kernel⟩, List.mem_of_getElem? (i := 1044) (by decide +kernel), List.mem_of_getElem? (i := 1497) (by decide +kernel), List.mem_of_getElem? (i := 1498) (by decide +kernel)⟩
theorem lw_p86 : lw_okq (⟨"FlexGridModel", "rounds", "()I"⟩, 45) := ⟨⟨by decide +kernel, by decide +kernel⟩, List.mem_of_getElem? (i := 1044) (by decide +kernel), List.mem_of_getElem? (i := 1505) (by decide +kernel), List.mem_of_getElem? (i := 1506) (by decide +kernel)⟩
theorem lw_p87 : lw_okq (⟨"FlexGridModel", "parks", "()Z"⟩, 45) := ⟨⟨by decide +kernel, by decide +kernel⟩, List.mem_of_getElem? (i := 1044) (by decide +kernel), List.mem_of_getElem? (i := 1521) (by decide +kernel), List.mem_of_getElem? (i := 1522) (by decide +kernel)⟩
theorem lw_p88 : lw_okq (⟨"FlexGridModel", "parkFor", "(I)I"⟩, 45) := ⟨⟨by decide +kernel, by decide +kernel⟩, List.mem_of_getElem? (i := 1044) (by decide +kernel), List.mem_of_getElem? (i := 1525) (by decide +kernel), List.mem_of_getElem? (i := 1526) (by decide +kernel)⟩
theorem lw_p89 : lw_okq (⟨"FlexGridModel", "ends", "(I)I"⟩, 45) := ⟨⟨by decide +kernel, by decide +kernel⟩, List.mem_of_getElem? (i := 1044) (by decide +kernel), List.mem_of_getElem? (i := 1538) (by decide +kernel), List.mem_of_getElem? (i := 1539) (by decide +kernel)⟩
theorem lw_p90 : lw_okq (⟨"FlexGridModel", "tries", "(III)V"⟩, 45) := ⟨⟨by decide +kernel, by decide +kernel⟩, List.mem_of_getElem? (i := 1044) (by decide +kernel), List.mem_of_getElem? (i := 1549) (by decide +kernel), List.mem_of_getElem? (i := 1550) (by decide +kernel)⟩
theorem lw_p91 : lw_okq (⟨"FlexGridModel", "drawn", "(I)I"⟩, 45) := ⟨⟨by decide +kernel, by decide +kernel⟩, List.mem_of_getElem? (i := 1044) (by decide +kernel), List.mem_of_getElem? (i := 1553) (by decide +kernel), List.mem_of_getElem? (i := 1554) (by decide +kernel)⟩
theorem lw_p92 : lw_okq (⟨"FlexGridModel", "litMany", "()I"⟩, 45) := ⟨⟨by decide +kernel, by decide +kernel⟩, List.mem_of_getElem? (i := 1044) (by decide +kernel), List.mem_of_getElem? (i := 1558) (by decide +kernel), List.mem_of_getElem? (i := 1559) (by decide +kernel)⟩
theorem lw_p93 : lw_okq (⟨"FlexGridModel", "partOf", "(II)I"⟩, 45) := ⟨⟨by decide +kernel, by decide +kernel⟩, List.mem_of_getElem? (i := 1044) (by decide +kernel), List.mem_of_getElem? (i := 1570) (by decide +kernel), List.mem_of_getElem? (i := 1571) (by decide +kernel)⟩
theorem lw_p94 : lw_okq (⟨"FlexGridModel", "readsStep", "()Z"⟩, 45) := ⟨⟨by decide +kernel, by decide +kernel⟩, List.mem_of_getElem? (i := 1044) (by decide +kernel), List.mem_of_getElem? (i := 1586) (by decide +kernel), List.mem_of_getElem? (i := 1587) (by decide +kernel)⟩
theorem lw_p95 : lw_okq (⟨"FlexGridModel", "does", "(I)Z"⟩, 45) := ⟨⟨by decide +kernel, by decide +kernel⟩, List.mem_of_getElem? (i := 1044) (by decide +kernel), List.mem_of_getElem? (i := 1607) (by decide +kernel), List.mem_of_getElem? (i := 1608) (by decide +kernel)⟩
def lw_privs_6 : List (MethodName × Nat) := [(⟨"FlexGridModel", "topOn", "(I)I"⟩, 45), (⟨"FlexGridModel", "plans", "()V"⟩, 45), (⟨"FlexGridModel", "nextMove", "()I"⟩, 45), (⟨"FlexGridModel", "isLeft", "(I)Z"⟩, 45), (⟨"FlexGridModel", "waitsMany", "(I)I"⟩, 45), (⟨"FlexGridModel", "waitsFor", "(II)Z"⟩, 45), (⟨"FlexGridModel", "rounds", "()I"⟩, 45), (⟨"FlexGridModel", "parks", "()Z"⟩, 45), (⟨"FlexGridModel", "parkFor", "(I)I"⟩, 45), (⟨"FlexGridModel", "ends", "(I)I"⟩, 45), (⟨"FlexGridModel", "tries", "(III)V"⟩, 45), (⟨"FlexGridModel", "drawn", "(I)I"⟩, 45), (⟨"FlexGridModel", "litMany", "()I"⟩, 45), (⟨"FlexGridModel", "partOf", "(II)I"⟩, 45), (⟨"FlexGridModel", "readsStep", "()Z"⟩, 45), (⟨"FlexGridModel", "does", "(I)Z"⟩, 45)]
theorem lw_r6 : ∀ q ∈ lw_privs_6, lw_okq q := List.forall_mem_cons.mpr ⟨lw_p80, List.forall_mem_cons.mpr ⟨lw_p81, List.forall_mem_cons.mpr ⟨lw_p82, List.forall_mem_cons.mpr ⟨lw_p83, List.forall_mem_cons.mpr ⟨lw_p84, List.forall_mem_cons.mpr ⟨lw_p85, List.forall_mem_cons.mpr ⟨lw_p86, List.forall_mem_cons.mpr ⟨lw_p87, List.forall_mem_cons.mpr ⟨lw_p88, List.forall_mem_cons.mpr ⟨lw_p89, List.forall_mem_cons.mpr ⟨lw_p90, List.forall_mem_cons.mpr ⟨lw_p91, List.forall_mem_cons.mpr ⟨lw_p92, List.forall_mem_cons.mpr ⟨lw_p93, List.forall_mem_cons.mpr ⟨lw_p94, List.forall_mem_cons.mpr ⟨lw_p95, fun _ h => absurd h List.not_mem_nil⟩⟩⟩⟩⟩⟩⟩⟩⟩⟩⟩⟩⟩⟩⟩⟩
theorem lw_p96 : lw_okq (⟨"FlexGridModel", "countOf", "(I)I"⟩, 45) := ⟨⟨by decide +kernel, by decide +kernel⟩, List.mem_of_getElem? (i := 1044) (by decide +kernel), List.mem_of_getElem? (i := 1625) (by decide +kernel), List.mem_of_getElem? (i := 1626) (by decide +kernel)⟩
theorem lw_p97 : lw_okq (⟨"FlexGridModel", "usedOnAll", "()I"⟩, 45) := ⟨⟨by decide +kernel, by decide +kernel⟩, List.mem_of_getElem? (i := 1044) (by decide +kernel), List.mem_of_getElem? (i := 1629) (by decide +kernel), List.mem_of_getElem? (i := 1630) (by decide +kernel)⟩
theorem lw_p98 : lw_okq (⟨"FlexGridModel", "usedOn", "(I)I"⟩, 45) := ⟨⟨by decide +kernel, by decide +kernel⟩, List.mem_of_getElem? (i := 1044) (by decide +kernel), List.mem_of_getElem? (i := 1633) (by decide +kernel), List.mem_of_getElem? (i := 1634) (by decide +kernel)⟩
theorem lw_p99 : lw_okq (⟨"FlexGridModel", "findsRows", "(II)V"⟩, 45) := ⟨⟨by decide +kernel, by decide +kernel⟩, List.mem_of_getElem? (i := 1044) (by decide +kernel), List.mem_of_getElem? (i := 1641) (by decide +kernel), List.mem_of_getElem? (i := 1642) (by decide +kernel)⟩
theorem lw_p100 : lw_okq (⟨"FlexGridModel", "tornOf", "(I)I"⟩, 45) := ⟨⟨by decide +kernel, by decide +kernel⟩, List.mem_of_getElem? (i := 1044) (by decide +kernel), List.mem_of_getElem? (i := 1645) (by decide +kernel), List.mem_of_getElem? (i := 1646) (by decide +kernel)⟩
theorem lw_p101 : lw_okq (⟨"FlexGridModel", "litOn", "(I)I"⟩, 45) := ⟨⟨by decide +kernel, by decide +kernel⟩, List.mem_of_getElem? (i := 1044) (by decide +kernel), List.mem_of_getElem? (i := 1649) (by decide +kernel), List.mem_of_getElem? (i := 1650) (by decide +kernel)⟩
theorem lw_p102 : lw_okq (⟨"FlexGridModel", "lengthOf", "(I)I"⟩, 45) := ⟨⟨by decide +kernel, by decide +kernel⟩, List.mem_of_getElem? (i := 1044) (by decide +kernel), List.mem_of_getElem? (i := 1660) (by decide +kernel), List.mem_of_getElem? (i := 1661) (by decide +kernel)⟩
def lw_privs_7 : List (MethodName × Nat) := [(⟨"FlexGridModel", "countOf", "(I)I"⟩, 45), (⟨"FlexGridModel", "usedOnAll", "()I"⟩, 45), (⟨"FlexGridModel", "usedOn", "(I)I"⟩, 45), (⟨"FlexGridModel", "findsRows", "(II)V"⟩, 45), (⟨"FlexGridModel", "tornOf", "(I)I"⟩, 45), (⟨"FlexGridModel", "litOn", "(I)I"⟩, 45), (⟨"FlexGridModel", "lengthOf", "(I)I"⟩, 45)]
theorem lw_r7 : ∀ q ∈ lw_privs_7, lw_okq q := List.forall_mem_cons.mpr ⟨lw_p96, List.forall_mem_cons.mpr ⟨lw_p97, List.forall_mem_cons.mpr ⟨lw_p98, List.forall_mem_cons.mpr ⟨lw_p99, List.forall_mem_cons.mpr ⟨lw_p100, List.forall_mem_cons.mpr ⟨lw_p101, List.forall_mem_cons.mpr ⟨lw_p102, fun _ h => absurd h List.not_mem_nil⟩⟩⟩⟩⟩⟩⟩
def lw_privs : List (MethodName × Nat) := lw_privs_1 ++ (lw_privs_2 ++ (lw_privs_3 ++ (lw_privs_4 ++ (lw_privs_5 ++ (lw_privs_6 ++ (lw_privs_7))))))
def lw_tbl : List Cond := k2_sels lw_privs ++ tables_1
theorem lw_privs_ok : ∀ q ∈ lw_privs, lw_okq q := by
  show ∀ q ∈ lw_privs_1 ++ (lw_privs_2 ++ (lw_privs_3 ++ (lw_privs_4 ++ (lw_privs_5 ++ (lw_privs_6 ++ (lw_privs_7)))))), lw_okq q
  exact List.forall_mem_append.mpr ⟨lw_r1, List.forall_mem_append.mpr ⟨lw_r2, List.forall_mem_append.mpr ⟨lw_r3, List.forall_mem_append.mpr ⟨lw_r4, List.forall_mem_append.mpr ⟨lw_r5, List.forall_mem_append.mpr ⟨lw_r6, lw_r7⟩⟩⟩⟩⟩⟩
-- ===== end of PART A; then your names; then what follows =====
theorem goodIn_r {big : List Cond} (ws : List Cond) (ps : List Nat) (hp : ws = ps.filterMap (fun i => big[i]?)) (h : ws.all goodWord = true) : GoodIn big ws := by
  intro w hw
  have h1 := List.all_eq_true.mp h w hw
  rw [hp] at hw
  obtain ⟨i, -, hi⟩ := List.mem_filterMap.mp hw
  have hm : w ∈ big := by first | exact List.mem_of_getElem? hi | exact List.getElem?_mem hi
  exact ⟨hm, good_of_word h1⟩
theorem goodIn_app {big a b : List Cond} (ha : GoodIn big a) (hb : GoodIn big b) : GoodIn big (a ++ b) := fun w h => (List.mem_append.mp h).elim (ha w) (hb w)
theorem goodIn_ca {big a b : List Cond} {c : Cond} (ha : GoodIn big (c :: a)) (hb : GoodIn big b) : GoodIn big (c :: (a ++ b)) := fun w h => (List.mem_cons.mp h).elim (fun e => ha w (List.mem_cons.mpr (Or.inl e))) (fun h => (List.mem_append.mp h).elim (fun h => ha w (List.mem_cons.mpr (Or.inr h))) (hb w))
theorem goodIn_sub {big ws : List Cond} (hm : ∀ w ∈ ws, w ∈ big) (h : ws.all goodWord = true) : GoodIn big ws := fun w hw => ⟨hm w hw, good_of_word (List.all_eq_true.mp h w hw)⟩
def RX0 : String := "FlexGrid$Finder"
def TX0 : u_T := fun k => match k with
  | 0 => ("FlexGrid$Finder", "ways", "LFlexGrid$Ways;", true)
  | 1 => ("FlexGrid$Finder", "way", "I", false)
  | 2 => ("FlexGrid$Finder", "links", "I", false)
  | 3 => ("FlexGrid$Finder", "first", "I", false)
  | 4 => ("FlexGrid$Finder", "width", "I", false)
  | _ => ("FlexGrid$Finder", "about", "I", false)
def tyX0 : Nat → FieldType := fun k => match k with
  | 0 => .object "FlexGrid$Ways"
  | 1 => .int
  | 2 => .int
  | 3 => .int
  | 4 => .int
  | _ => .int
abbrev wsX00 : List Cond := u_ws RX0 TX0 6
theorem nmX0 : ∀ a, a < 6 → ∀ b, b < 6 → a ≠ b → (TX0 a).2.1 ≠ (TX0 b).2.1 := by decide +kernel
theorem tyX0_ok : ∀ k, k < 6 → parseFieldDescriptor (TX0 k).2.2.1 = some (tyX0 k) := by decide +kernel
abbrev cX0_init : ByteArray := prog_2_method_1_code
def yX0_init : MethodName := ⟨RX0, "<init>", "()V"⟩
abbrev cX0_forgetWays : ByteArray := prog_2_method_2_code
def yX0_forgetWays : MethodName := ⟨RX0, "forgetWays", "()V"⟩
abbrev cX0_find : ByteArray := prog_2_method_3_code
def yX0_find : MethodName := ⟨RX0, "find", "(LFlexGrid$State;IIII)Z"⟩
abbrev cX0_weighRows : ByteArray := prog_2_method_4_code
def yX0_weighRows : MethodName := ⟨RX0, "weighRows", "(LFlexGrid$State;IIIJ)V"⟩
abbrev cX0_choose : ByteArray := prog_2_method_5_code
def yX0_choose : MethodName := ⟨RX0, "choose", "(IIII)V"⟩
def RX1 : String := "FlexGrid$Net"
def TX1 : u_T := fun k => match k with
  | 0 => ("FlexGrid$Net", "nodes", "I", false)
  | 1 => ("FlexGrid$Net", "slots", "I", false)
  | 2 => ("FlexGrid$Net", "between", "I", false)
  | 3 => ("FlexGrid$Net", "links", "I", false)
  | 4 => ("FlexGrid$Net", "clauses", "I", false)
  | 5 => ("FlexGrid$Net", "reach", "[I", true)
  | 6 => ("FlexGrid$Net", "oneEnd", "[I", true)
  | 7 => ("FlexGrid$Net", "otherEnd", "[I", true)
  | 8 => ("FlexGrid$Net", "length", "[I", true)
  | _ => ("FlexGrid$Net", "linkAt", "[I", true)
def tyX1 : Nat → FieldType := fun k => match k with
  | 0 => .int
  | 1 => .int
  | 2 => .int
  | 3 => .int
  | 4 => .int
  | 5 => .array .int
  | 6 => .array .int
  | 7 => .array .int
  | 8 => .array .int
  | _ => .array .int
abbrev wsX10 : List Cond := u_ws RX1 TX1 10
theorem nmX1 : ∀ a, a < 10 → ∀ b, b < 10 → a ≠ b → (TX1 a).2.1 ≠ (TX1 b).2.1 := by decide +kernel
theorem tyX1_ok : ∀ k, k < 10 → parseFieldDescriptor (TX1 k).2.2.1 = some (tyX1 k) := by decide +kernel
abbrev cX1_init : ByteArray := prog_3_method_1_code
def yX1_init : MethodName := ⟨RX1, "<init>", "()V"⟩
abbrev cX1_begin : ByteArray := prog_3_method_2_code
def yX1_begin : MethodName := ⟨RX1, "begin", "()V"⟩
abbrev cX1_copy : ByteArray := prog_3_method_3_code
def yX1_copy : MethodName := ⟨RX1, "copy", "(LFlexGrid$Net;)V"⟩
abbrev cX1_join : ByteArray := prog_3_method_4_code
def yX1_join : MethodName := ⟨RX1, "join", "(III)V"⟩
abbrev cX1_areJoined : ByteArray := prog_3_method_5_code
def yX1_areJoined : MethodName := ⟨RX1, "areJoined", "(II)Z"⟩
abbrev cX1_lengthOf : ByteArray := prog_3_method_6_code
def yX1_lengthOf : MethodName := ⟨RX1, "lengthOf", "(I)I"⟩
abbrev cX1_formatOf : ByteArray := prog_3_method_7_code
def yX1_formatOf : MethodName := ⟨RX1, "formatOf", "(I)I"⟩
abbrev cX1_widthOf : ByteArray := prog_3_method_8_code
def yX1_widthOf : MethodName := ⟨RX1, "widthOf", "(II)I"⟩
abbrev cX1_allSlots : ByteArray := prog_3_method_9_code
def yX1_allSlots : MethodName := ⟨RX1, "allSlots", "()J"⟩
def RX2 : String := "FlexGrid$Reader"
def TX2 : u_T := fun k => match k with
  | 0 => ("FlexGrid$Reader", "tape", "LFlexGrid$Tape;", true)
  | 1 => ("FlexGrid$Reader", "draft", "LFlexGrid$Net;", true)
  | 2 => ("FlexGrid$Reader", "words", "[I", true)
  | 3 => ("FlexGrid$Reader", "numbers", "[I", true)
  | 4 => ("FlexGrid$Reader", "isGrid", "Z", false)
  | 5 => ("FlexGrid$Reader", "clauses", "I", false)
  | 6 => ("FlexGrid$Reader", "end", "I", false)
  | 7 => ("FlexGrid$Reader", "at", "I", false)
  | _ => ("FlexGrid$Reader", "fault", "I", false)
def tyX2 : Nat → FieldType := fun k => match k with
  | 0 => .object "FlexGrid$Tape"
  | 1 => .object "FlexGrid$Net"
  | 2 => .array .int
  | 3 => .array .int
  | 4 => .boolean
  | 5 => .int
  | 6 => .int
  | 7 => .int
  | _ => .int
abbrev wsX20 : List Cond := u_ws RX2 TX2 9
theorem nmX2 : ∀ a, a < 9 → ∀ b, b < 9 → a ≠ b → (TX2 a).2.1 ≠ (TX2 b).2.1 := by decide +kernel
theorem tyX2_ok : ∀ k, k < 9 → parseFieldDescriptor (TX2 k).2.2.1 = some (tyX2 k) := by decide +kernel
abbrev cX2_init : ByteArray := prog_4_method_1_code
def yX2_init : MethodName := ⟨RX2, "<init>", "(LFlexGrid$Tape;)V"⟩
abbrev cX2_wordOf : ByteArray := prog_4_method_2_code
def yX2_wordOf : MethodName := ⟨RX2, "wordOf", "(I)I"⟩
abbrev cX2_numberOf : ByteArray := prog_4_method_3_code
def yX2_numberOf : MethodName := ⟨RX2, "numberOf", "(II)I"⟩
abbrev cX2_readText : ByteArray := prog_4_method_4_code
def yX2_readText : MethodName := ⟨RX2, "readText", "(IZ)I"⟩
abbrev cX2_readClause : ByteArray := prog_4_method_5_code
def yX2_readClause : MethodName := ⟨RX2, "readClause", "()V"⟩
abbrev cX2_readNumber : ByteArray := prog_4_method_6_code
def yX2_readNumber : MethodName := ⟨RX2, "readNumber", "(II)V"⟩
abbrev cX2_blame : ByteArray := prog_4_method_7_code
def yX2_blame : MethodName := ⟨RX2, "blame", "(II)V"⟩
abbrev cX2_stepFault : ByteArray := prog_4_method_8_code
def yX2_stepFault : MethodName := ⟨RX2, "stepFault", "(III)I"⟩
abbrev cX2_gridFault : ByteArray := prog_4_method_9_code
def yX2_gridFault : MethodName := ⟨RX2, "gridFault", "(III)I"⟩
abbrev cX2_linkFault : ByteArray := prog_4_method_10_code
def yX2_linkFault : MethodName := ⟨RX2, "linkFault", "(II)I"⟩
abbrev cX2_wordFrom : ByteArray := prog_4_method_11_code
def yX2_wordFrom : MethodName := ⟨RX2, "wordFrom", "(I)I"⟩
abbrev cX2_isWord : ByteArray := prog_4_method_12_code
def yX2_isWord : MethodName := ⟨RX2, "isWord", "(ILjava/lang/String;)Z"⟩
abbrev cX2_gridWord : ByteArray := prog_4_method_13_code
def yX2_gridWord : MethodName := ⟨RX2, "gridWord", "(I)Ljava/lang/String;"⟩
abbrev cX2_stepWord : ByteArray := prog_4_method_14_code
def yX2_stepWord : MethodName := ⟨RX2, "stepWord", "(I)Ljava/lang/String;"⟩
def RX3 : String := "FlexGrid$Repacking"
def TX3 : u_T := fun k => match k with
  | 0 => ("FlexGrid$Repacking", "now", "LFlexGrid$State;", true)
  | 1 => ("FlexGrid$Repacking", "targets", "LFlexGrid$State;", true)
  | 2 => ("FlexGrid$Repacking", "finder", "LFlexGrid$Finder;", true)
  | 3 => ("FlexGrid$Repacking", "left", "J", false)
  | 4 => ("FlexGrid$Repacking", "parked", "J", false)
  | 5 => ("FlexGrid$Repacking", "waiting", "[J", true)
  | 6 => ("FlexGrid$Repacking", "order", "[I", true)
  | _ => ("FlexGrid$Repacking", "done", "I", false)
def tyX3 : Nat → FieldType := fun k => match k with
  | 0 => .object "FlexGrid$State"
  | 1 => .object "FlexGrid$State"
  | 2 => .object "FlexGrid$Finder"
  | 3 => .long
  | 4 => .long
  | 5 => .array .long
  | 6 => .array .int
  | _ => .int
abbrev wsX30 : List Cond := u_ws RX3 TX3 8
theorem nmX3 : ∀ a, a < 8 → ∀ b, b < 8 → a ≠ b → (TX3 a).2.1 ≠ (TX3 b).2.1 := by decide +kernel
theorem tyX3_ok : ∀ k, k < 8 → parseFieldDescriptor (TX3 k).2.2.1 = some (tyX3 k) := by decide +kernel
abbrev cX3_init : ByteArray := prog_5_method_1_code
def yX3_init : MethodName := ⟨RX3, "<init>", "(LFlexGrid$State;LFlexGrid$Finder;)V"⟩
abbrev cX3_lay : ByteArray := prog_5_method_2_code
def yX3_lay : MethodName := ⟨RX3, "lay", "(LFlexGrid$State;I)Z"⟩
abbrev cX3_aim : ByteArray := prog_5_method_3_code
def yX3_aim : MethodName := ⟨RX3, "aim", "(I)V"⟩
abbrev cX3_canStay : ByteArray := prog_5_method_4_code
def yX3_canStay : MethodName := ⟨RX3, "canStay", "(I)Z"⟩
abbrev cX3_waitingFor : ByteArray := prog_5_method_5_code
def yX3_waitingFor : MethodName := ⟨RX3, "waitingFor", "(I)J"⟩
abbrev cX3_carryOut : ByteArray := prog_5_method_6_code
def yX3_carryOut : MethodName := ⟨RX3, "carryOut", "()V"⟩
abbrev cX3_nextFree : ByteArray := prog_5_method_7_code
def yX3_nextFree : MethodName := ⟨RX3, "nextFree", "()I"⟩
abbrev cX3_waitAnewFor : ByteArray := prog_5_method_8_code
def yX3_waitAnewFor : MethodName := ⟨RX3, "waitAnewFor", "(I)V"⟩
abbrev cX3_carryOutParking : ByteArray := prog_5_method_9_code
def yX3_carryOutParking : MethodName := ⟨RX3, "carryOutParking", "()V"⟩
abbrev cX3_parkOne : ByteArray := prog_5_method_10_code
def yX3_parkOne : MethodName := ⟨RX3, "parkOne", "()Z"⟩
abbrev cX3_goingRound : ByteArray := prog_5_method_11_code
def yX3_goingRound : MethodName := ⟨RX3, "goingRound", "()I"⟩
def RX4 : String := "FlexGrid$State"
def TX4 : u_T := fun k => match k with
  | 0 => ("FlexGrid$State", "net", "LFlexGrid$Net;", true)
  | 1 => ("FlexGrid$State", "up", "I", false)
  | 2 => ("FlexGrid$State", "clock", "I", false)
  | 3 => ("FlexGrid$State", "x", "I", false)
  | 4 => ("FlexGrid$State", "demands", "I", false)
  | 5 => ("FlexGrid$State", "from", "[I", true)
  | 6 => ("FlexGrid$State", "to", "[I", true)
  | 7 => ("FlexGrid$State", "rate", "[I", true)
  | 8 => ("FlexGrid$State", "status", "[I", true)
  | 9 => ("FlexGrid$State", "end", "[I", true)
  | 10 => ("FlexGrid$State", "links", "[I", true)
  | 11 => ("FlexGrid$State", "first", "[I", true)
  | 12 => ("FlexGrid$State", "width", "[I", true)
  | 13 => ("FlexGrid$State", "own", "[J", true)
  | 14 => ("FlexGrid$State", "used", "[J", true)
  | _ => ("FlexGrid$State", "order", "[I", true)
def tyX4 : Nat → FieldType := fun k => match k with
  | 0 => .object "FlexGrid$Net"
  | 1 => .int
  | 2 => .int
  | 3 => .int
  | 4 => .int
  | 5 => .array .int
  | 6 => .array .int
  | 7 => .array .int
  | 8 => .array .int
  | 9 => .array .int
  | 10 => .array .int
  | 11 => .array .int
  | 12 => .array .int
  | 13 => .array .long
  | 14 => .array .long
  | _ => .array .int
abbrev wsX40 : List Cond := u_ws RX4 TX4 16
theorem nmX4 : ∀ a, a < 16 → ∀ b, b < 16 → a ≠ b → (TX4 a).2.1 ≠ (TX4 b).2.1 := by decide +kernel
theorem tyX4_ok : ∀ k, k < 16 → parseFieldDescriptor (TX4 k).2.2.1 = some (tyX4 k) := by decide +kernel
abbrev cX4_init : ByteArray := prog_6_method_1_code
def yX4_init : MethodName := ⟨RX4, "<init>", "()V"⟩
abbrev cX4_beginWith : ByteArray := prog_6_method_2_code
def yX4_beginWith : MethodName := ⟨RX4, "beginWith", "(LFlexGrid$Net;)V"⟩
abbrev cX4_clearDemands : ByteArray := prog_6_method_3_code
def yX4_clearDemands : MethodName := ⟨RX4, "clearDemands", "()V"⟩
abbrev cX4_clearSlots : ByteArray := prog_6_method_4_code
def yX4_clearSlots : MethodName := ⟨RX4, "clearSlots", "()V"⟩
abbrev cX4_copy : ByteArray := prog_6_method_5_code
def yX4_copy : MethodName := ⟨RX4, "copy", "(LFlexGrid$State;)V"⟩
abbrev cX4_has : ByteArray := prog_6_method_6_code
def yX4_has : MethodName := ⟨RX4, "has", "(I)Z"⟩
abbrev cX4_isLit : ByteArray := prog_6_method_7_code
def yX4_isLit : MethodName := ⟨RX4, "isLit", "(I)Z"⟩
abbrev cX4_isLitOrDark : ByteArray := prog_6_method_8_code
def yX4_isLitOrDark : MethodName := ⟨RX4, "isLitOrDark", "(I)Z"⟩
abbrev cX4_hasLink : ByteArray := prog_6_method_9_code
def yX4_hasLink : MethodName := ⟨RX4, "hasLink", "(I)Z"⟩
abbrev cX4_isUp : ByteArray := prog_6_method_10_code
def yX4_isUp : MethodName := ⟨RX4, "isUp", "(I)Z"⟩
abbrev cX4_add : ByteArray := prog_6_method_11_code
def yX4_add : MethodName := ⟨RX4, "add", "(III)I"⟩
abbrev cX4_put : ByteArray := prog_6_method_12_code
def yX4_put : MethodName := ⟨RX4, "put", "(IIII)V"⟩
abbrev cX4_fill : ByteArray := prog_6_method_13_code
def yX4_fill : MethodName := ⟨RX4, "fill", "(IJ)V"⟩
abbrev cX4_takeOff : ByteArray := prog_6_method_14_code
def yX4_takeOff : MethodName := ⟨RX4, "takeOff", "(II)V"⟩
abbrev cX4_move : ByteArray := prog_6_method_15_code
def yX4_move : MethodName := ⟨RX4, "move", "(IIII)V"⟩
abbrev cX4_busy : ByteArray := prog_6_method_16_code
def yX4_busy : MethodName := ⟨RX4, "busy", "(II)J"⟩
abbrev cX4_fitting : ByteArray := prog_6_method_17_code
def yX4_fitting : MethodName := ⟨RX4, "fitting", "(III)J"⟩
abbrev cX4_slideRoom : ByteArray := prog_6_method_18_code
def yX4_slideRoom : MethodName := ⟨RX4, "slideRoom", "(I)I"⟩
abbrev cX4_landings : ByteArray := prog_6_method_19_code
def yX4_landings : MethodName := ⟨RX4, "landings", "(I)J"⟩
abbrev cX4_clashes : ByteArray := prog_6_method_20_code
def yX4_clashes : MethodName := ⟨RX4, "clashes", "(IIII)Z"⟩
abbrev cX4_inTheWay : ByteArray := prog_6_method_21_code
def yX4_inTheWay : MethodName := ⟨RX4, "inTheWay", "(III)I"⟩
abbrev cX4_witnesses : ByteArray := prog_6_method_22_code
def yX4_witnesses : MethodName := ⟨RX4, "witnesses", "(II)J"⟩
abbrev cX4_top : ByteArray := prog_6_method_23_code
def yX4_top : MethodName := ⟨RX4, "top", "()I"⟩
abbrev cX4_slotsUsed : ByteArray := prog_6_method_24_code
def yX4_slotsUsed : MethodName := ⟨RX4, "slotsUsed", "()I"⟩
abbrev cX4_howMany : ByteArray := prog_6_method_25_code
def yX4_howMany : MethodName := ⟨RX4, "howMany", "(I)I"⟩
abbrev cX4_litOn : ByteArray := prog_6_method_26_code
def yX4_litOn : MethodName := ⟨RX4, "litOn", "(I)I"⟩
abbrev cX4_orderByFirst : ByteArray := prog_6_method_27_code
def yX4_orderByFirst : MethodName := ⟨RX4, "orderByFirst", "()I"⟩
abbrev cX4_sever : ByteArray := prog_6_method_28_code
def yX4_sever : MethodName := ⟨RX4, "sever", "(I)I"⟩
abbrev cX4_endThoseDue : ByteArray := prog_6_method_29_code
def yX4_endThoseDue : MethodName := ⟨RX4, "endThoseDue", "()I"⟩
def RX5 : String := "FlexGrid$Tape"
def TX5 : u_T := fun k => match k with
  | 0 => ("FlexGrid$Tape", "bytes", "[I", true)
  | _ => ("FlexGrid$Tape", "size", "I", false)
def tyX5 : Nat → FieldType := fun k => match k with
  | 0 => .array .int
  | _ => .int
abbrev wsX50 : List Cond := u_ws RX5 TX5 2
theorem nmX5 : ∀ a, a < 2 → ∀ b, b < 2 → a ≠ b → (TX5 a).2.1 ≠ (TX5 b).2.1 := by decide +kernel
theorem tyX5_ok : ∀ k, k < 2 → parseFieldDescriptor (TX5 k).2.2.1 = some (tyX5 k) := by decide +kernel
abbrev cX5_init : ByteArray := prog_7_method_1_code
def yX5_init : MethodName := ⟨RX5, "<init>", "()V"⟩
abbrev cX5_append : ByteArray := prog_7_method_2_code
def yX5_append : MethodName := ⟨RX5, "append", "(I)V"⟩
def RX6 : String := "FlexGrid$Trial"
def TX6 : u_T := fun k => match k with
  | 0 => ("FlexGrid$Trial", "room", "LFlexGrid$State;", true)
  | 1 => ("FlexGrid$Trial", "finder", "LFlexGrid$Finder;", true)
  | 2 => ("FlexGrid$Trial", "x", "I", false)
  | 3 => ("FlexGrid$Trial", "blocked", "I", false)
  | 4 => ("FlexGrid$Trial", "blockedRates", "I", false)
  | 5 => ("FlexGrid$Trial", "highestTop", "I", false)
  | _ => ("FlexGrid$Trial", "lit", "I", false)
def tyX6 : Nat → FieldType := fun k => match k with
  | 0 => .object "FlexGrid$State"
  | 1 => .object "FlexGrid$Finder"
  | 2 => .int
  | 3 => .int
  | 4 => .int
  | 5 => .int
  | _ => .int
abbrev wsX60 : List Cond := u_ws RX6 TX6 7
theorem nmX6 : ∀ a, a < 7 → ∀ b, b < 7 → a ≠ b → (TX6 a).2.1 ≠ (TX6 b).2.1 := by decide +kernel
theorem tyX6_ok : ∀ k, k < 7 → parseFieldDescriptor (TX6 k).2.2.1 = some (tyX6 k) := by decide +kernel
abbrev cX6_init : ByteArray := prog_8_method_1_code
def yX6_init : MethodName := ⟨RX6, "<init>", "(LFlexGrid$State;LFlexGrid$Finder;)V"⟩
abbrev cX6_run : ByteArray := prog_8_method_2_code
def yX6_run : MethodName := ⟨RX6, "run", "(LFlexGrid$State;III)V"⟩
abbrev cX6_endThoseOf : ByteArray := prog_8_method_3_code
def yX6_endThoseOf : MethodName := ⟨RX6, "endThoseOf", "(I)V"⟩
abbrev cX6_askAt : ByteArray := prog_8_method_4_code
def yX6_askAt : MethodName := ⟨RX6, "askAt", "(III)V"⟩
abbrev cX6_draw : ByteArray := prog_8_method_5_code
def yX6_draw : MethodName := ⟨RX6, "draw", "(I)I"⟩
def RX7 : String := "FlexGrid$Ways"
def TX7 : u_T := fun k => match k with
  | 0 => ("FlexGrid$Ways", "known", "[I", true)
  | 1 => ("FlexGrid$Ways", "knownFor", "[I", true)
  | 2 => ("FlexGrid$Ways", "links", "[I", true)
  | 3 => ("FlexGrid$Ways", "length", "[I", true)
  | 4 => ("FlexGrid$Ways", "many", "[I", true)
  | 5 => ("FlexGrid$Ways", "pair", "I", false)
  | 6 => ("FlexGrid$Ways", "goal", "I", false)
  | _ => ("FlexGrid$Ways", "up", "I", false)
def tyX7 : Nat → FieldType := fun k => match k with
  | 0 => .array .int
  | 1 => .array .int
  | 2 => .array .int
  | 3 => .array .int
  | 4 => .array .int
  | 5 => .int
  | 6 => .int
  | _ => .int
abbrev wsX70 : List Cond := u_ws RX7 TX7 8
theorem nmX7 : ∀ a, a < 8 → ∀ b, b < 8 → a ≠ b → (TX7 a).2.1 ≠ (TX7 b).2.1 := by decide +kernel
theorem tyX7_ok : ∀ k, k < 8 → parseFieldDescriptor (TX7 k).2.2.1 = some (tyX7 k) := by decide +kernel
abbrev cX7_init : ByteArray := prog_9_method_1_code
def yX7_init : MethodName := ⟨RX7, "<init>", "()V"⟩
abbrev cX7_forget : ByteArray := prog_9_method_2_code
def yX7_forget : MethodName := ⟨RX7, "forget", "()V"⟩
abbrev cX7_pairOf : ByteArray := prog_9_method_3_code
def yX7_pairOf : MethodName := ⟨RX7, "pairOf", "(LFlexGrid$State;II)I"⟩
abbrev cX7_walk : ByteArray := prog_9_method_4_code
def yX7_walk : MethodName := ⟨RX7, "walk", "(LFlexGrid$Ways;LFlexGrid$Net;IIIII)V"⟩
abbrev cX7_offer : ByteArray := prog_9_method_5_code
def yX7_offer : MethodName := ⟨RX7, "offer", "(III)V"⟩
def RX8 : String := "FlexGrid"
def TX8 : u_T := fun k => match k with
  | 0 => ("FlexGrid", "tape", "LFlexGrid$Tape;", true)
  | 1 => ("FlexGrid", "reader", "LFlexGrid$Reader;", true)
  | 2 => ("FlexGrid", "finder", "LFlexGrid$Finder;", true)
  | 3 => ("FlexGrid", "state", "LFlexGrid$State;", true)
  | 4 => ("FlexGrid", "kept", "LFlexGrid$State;", true)
  | 5 => ("FlexGrid", "thought", "LFlexGrid$State;", true)
  | 6 => ("FlexGrid", "repacking", "LFlexGrid$Repacking;", true)
  | 7 => ("FlexGrid", "trying", "LFlexGrid$Trial;", true)
  | _ => ("FlexGrid", "isKept", "Z", false)
def tyX8 : Nat → FieldType := fun k => match k with
  | 0 => .object "FlexGrid$Tape"
  | 1 => .object "FlexGrid$Reader"
  | 2 => .object "FlexGrid$Finder"
  | 3 => .object "FlexGrid$State"
  | 4 => .object "FlexGrid$State"
  | 5 => .object "FlexGrid$State"
  | 6 => .object "FlexGrid$Repacking"
  | 7 => .object "FlexGrid$Trial"
  | _ => .boolean
abbrev wsX80 : List Cond := u_ws RX8 TX8 9
theorem nmX8 : ∀ a, a < 9 → ∀ b, b < 9 → a ≠ b → (TX8 a).2.1 ≠ (TX8 b).2.1 := by decide +kernel
theorem tyX8_ok : ∀ k, k < 9 → parseFieldDescriptor (TX8 k).2.2.1 = some (tyX8 k) := by decide +kernel
abbrev cX8_init : ByteArray := prog_1_method_1_code
def yX8_init : MethodName := ⟨RX8, "<init>", "()V"⟩
abbrev cX8_feed : ByteArray := prog_1_method_2_code
def yX8_feed : MethodName := ⟨RX8, "feed", "(IIIII)I"⟩
abbrev cX8_grid : ByteArray := prog_1_method_3_code
def yX8_grid : MethodName := ⟨RX8, "grid", "(I)I"⟩
abbrev cX8_works : ByteArray := prog_1_method_4_code
def yX8_works : MethodName := ⟨RX8, "works", "(I)I"⟩
abbrev cX8_isText : ByteArray := prog_1_method_5_code
def yX8_isText : MethodName := ⟨RX8, "isText", "(I)Z"⟩
abbrev cX8_stepIsDone : ByteArray := prog_1_method_6_code
def yX8_stepIsDone : MethodName := ⟨RX8, "stepIsDone", "(I)Z"⟩
abbrev cX8_ask : ByteArray := prog_1_method_7_code
def yX8_ask : MethodName := ⟨RX8, "ask", "(IIII)I"⟩
abbrev cX8_drop : ByteArray := prog_1_method_8_code
def yX8_drop : MethodName := ⟨RX8, "drop", "(I)Z"⟩
abbrev cX8_slide : ByteArray := prog_1_method_9_code
def yX8_slide : MethodName := ⟨RX8, "slide", "(I)I"⟩
abbrev cX8_slideDown : ByteArray := prog_1_method_10_code
def yX8_slideDown : MethodName := ⟨RX8, "slideDown", "(I)I"⟩
abbrev cX8_sweep : ByteArray := prog_1_method_11_code
def yX8_sweep : MethodName := ⟨RX8, "sweep", "()I"⟩
abbrev cX8_sweeps : ByteArray := prog_1_method_12_code
def yX8_sweeps : MethodName := ⟨RX8, "sweeps", "()I"⟩
abbrev cX8_jump : ByteArray := prog_1_method_13_code
def yX8_jump : MethodName := ⟨RX8, "jump", "(II)I"⟩
abbrev cX8_cut : ByteArray := prog_1_method_14_code
def yX8_cut : MethodName := ⟨RX8, "cut", "(I)I"⟩
abbrev cX8_mend : ByteArray := prog_1_method_15_code
def yX8_mend : MethodName := ⟨RX8, "mend", "(I)Z"⟩
abbrev cX8_relight : ByteArray := prog_1_method_16_code
def yX8_relight : MethodName := ⟨RX8, "relight", "(I)I"⟩
abbrev cX8_lightAll : ByteArray := prog_1_method_17_code
def yX8_lightAll : MethodName := ⟨RX8, "lightAll", "(LFlexGrid$State;I)I"⟩
abbrev cX8_ifCut : ByteArray := prog_1_method_18_code
def yX8_ifCut : MethodName := ⟨RX8, "ifCut", "(III)I"⟩
abbrev cX8_lasts : ByteArray := prog_1_method_19_code
def yX8_lasts : MethodName := ⟨RX8, "lasts", "(II)I"⟩
abbrev cX8_ticks : ByteArray := prog_1_method_20_code
def yX8_ticks : MethodName := ⟨RX8, "ticks", "(I)I"⟩
abbrev cX8_seed : ByteArray := prog_1_method_21_code
def yX8_seed : MethodName := ⟨RX8, "seed", "(I)Z"⟩
abbrev cX8_gridIs : ByteArray := prog_1_method_22_code
def yX8_gridIs : MethodName := ⟨RX8, "gridIs", "(I)I"⟩
abbrev cX8_linkIs : ByteArray := prog_1_method_23_code
def yX8_linkIs : MethodName := ⟨RX8, "linkIs", "(II)I"⟩
abbrev cX8_longestFree : ByteArray := prog_1_method_24_code
def yX8_longestFree : MethodName := ⟨RX8, "longestFree", "(I)I"⟩
abbrev cX8_freeRows : ByteArray := prog_1_method_25_code
def yX8_freeRows : MethodName := ⟨RX8, "freeRows", "(I)I"⟩
abbrev cX8_torn : ByteArray := prog_1_method_26_code
def yX8_torn : MethodName := ⟨RX8, "torn", "(I)I"⟩
abbrev cX8_demandIs : ByteArray := prog_1_method_27_code
def yX8_demandIs : MethodName := ⟨RX8, "demandIs", "(II)I"⟩
abbrev cX8_litDemandIs : ByteArray := prog_1_method_28_code
def yX8_litDemandIs : MethodName := ⟨RX8, "litDemandIs", "(II)I"⟩
abbrev cX8_way : ByteArray := prog_1_method_29_code
def yX8_way : MethodName := ⟨RX8, "way", "(IIII)I"⟩
abbrev cX8_found : ByteArray := prog_1_method_30_code
def yX8_found : MethodName := ⟨RX8, "found", "(IIIII)I"⟩
abbrev cX8_witness : ByteArray := prog_1_method_31_code
def yX8_witness : MethodName := ⟨RX8, "witness", "(IIIII)I"⟩
abbrev cX8_blocked : ByteArray := prog_1_method_32_code
def yX8_blocked : MethodName := ⟨RX8, "blocked", "(IIII)I"⟩
abbrev cX8_plan : ByteArray := prog_1_method_33_code
def yX8_plan : MethodName := ⟨RX8, "plan", "(I)I"⟩
abbrev cX8_repack : ByteArray := prog_1_method_34_code
def yX8_repack : MethodName := ⟨RX8, "repack", "(II)I"⟩
abbrev cX8_planned : ByteArray := prog_1_method_35_code
def yX8_planned : MethodName := ⟨RX8, "planned", "(III)I"⟩
abbrev cX8_waits : ByteArray := prog_1_method_36_code
def yX8_waits : MethodName := ⟨RX8, "waits", "(II)I"⟩
abbrev cX8_unravel : ByteArray := prog_1_method_37_code
def yX8_unravel : MethodName := ⟨RX8, "unravel", "(II)I"⟩
abbrev cX8_trial : ByteArray := prog_1_method_38_code
def yX8_trial : MethodName := ⟨RX8, "trial", "(IIII)I"⟩
abbrev cX8_bestRule : ByteArray := prog_1_method_39_code
def yX8_bestRule : MethodName := ⟨RX8, "bestRule", "(II)I"⟩
abbrev cX8_isTrial : ByteArray := prog_1_method_40_code
def yX8_isTrial : MethodName := ⟨RX8, "isTrial", "(II)Z"⟩
abbrev cX8_parts : ByteArray := prog_1_method_41_code
def yX8_parts : MethodName := ⟨RX8, "parts", "(IIII)I"⟩
abbrev cX8_greatestFitting : ByteArray := prog_1_method_42_code
def yX8_greatestFitting : MethodName := ⟨RX8, "greatestFitting", "(IIII)I"⟩
abbrev cX8_more : ByteArray := prog_1_method_43_code
def yX8_more : MethodName := ⟨RX8, "more", "(IIII)I"⟩
abbrev cX8_keep : ByteArray := prog_1_method_44_code
def yX8_keep : MethodName := ⟨RX8, "keep", "()I"⟩
abbrev cX8_undo : ByteArray := prog_1_method_45_code
def yX8_undo : MethodName := ⟨RX8, "undo", "()Z"⟩
abbrev cX8_check : ByteArray := prog_1_method_46_code
def yX8_check : MethodName := ⟨RX8, "check", "(I)I"⟩
abbrev cX8_firstByte : ByteArray := prog_1_method_47_code
def yX8_firstByte : MethodName := ⟨RX8, "firstByte", "(I)I"⟩
abbrev cX8_count : ByteArray := prog_1_method_48_code
def yX8_count : MethodName := ⟨RX8, "count", "(I)I"⟩
abbrev cX8_arePlaces : ByteArray := prog_1_method_49_code
def yX8_arePlaces : MethodName := ⟨RX8, "arePlaces", "(II)Z"⟩
abbrev cX8_isWish : ByteArray := prog_1_method_50_code
def yX8_isWish : MethodName := ⟨RX8, "isWish", "(III)Z"⟩
abbrev cX8_isRule : ByteArray := prog_1_method_51_code
def yX8_isRule : MethodName := ⟨RX8, "isRule", "(I)Z"⟩
abbrev cX8_lowest : ByteArray := prog_1_method_52_code
def yX8_lowest : MethodName := ⟨RX8, "lowest", "(J)I"⟩
abbrev cX8_highest : ByteArray := prog_1_method_53_code
def yX8_highest : MethodName := ⟨RX8, "highest", "(J)I"⟩
abbrev cX8_rowStarts : ByteArray := prog_1_method_54_code
def yX8_rowStarts : MethodName := ⟨RX8, "rowStarts", "(JI)J"⟩
abbrev cX8_span : ByteArray := prog_1_method_55_code
def yX8_span : MethodName := ⟨RX8, "span", "(II)J"⟩
def RX9 : String := "FlexGridModel"
def TX9 : u_T := fun k => match k with
  | 0 => ("FlexGridModel", "file", "[I", true)
  | 1 => ("FlexGridModel", "draft", "[I", true)
  | 2 => ("FlexGridModel", "isKept", "Z", false)
  | 3 => ("FlexGridModel", "tape", "[B", true)
  | 4 => ("FlexGridModel", "taped", "I", false)
  | 5 => ("FlexGridModel", "place0", "I", false)
  | 6 => ("FlexGridModel", "length0", "I", false)
  | 7 => ("FlexGridModel", "fault", "I", false)
  | 8 => ("FlexGridModel", "number0", "I", false)
  | 9 => ("FlexGridModel", "numberAt", "I", false)
  | 10 => ("FlexGridModel", "wordAt", "I", false)
  | 11 => ("FlexGridModel", "clauses", "I", false)
  | 12 => ("FlexGridModel", "word0", "J", false)
  | 13 => ("FlexGridModel", "wayLong", "[I", true)
  | 14 => ("FlexGridModel", "wayLinks", "[I", true)
  | 15 => ("FlexGridModel", "wayMany", "[I", true)
  | 16 => ("FlexGridModel", "wayNodes", "[I", true)
  | 17 => ("FlexGridModel", "goneTo", "[I", true)
  | 18 => ("FlexGridModel", "goneBy", "[I", true)
  | 19 => ("FlexGridModel", "ways", "I", false)
  | 20 => ("FlexGridModel", "foundWay", "I", false)
  | 21 => ("FlexGridModel", "foundFirst", "I", false)
  | 22 => ("FlexGridModel", "foundWidth", "I", false)
  | 23 => ("FlexGridModel", "order", "[I", true)
  | 24 => ("FlexGridModel", "aimFirst", "[I", true)
  | 25 => ("FlexGridModel", "aimWidth", "[I", true)
  | 26 => ("FlexGridModel", "aimOn", "[I", true)
  | 27 => ("FlexGridModel", "planOf", "[I", true)
  | 28 => ("FlexGridModel", "isMove", "[Z", true)
  | 29 => ("FlexGridModel", "isDone", "[Z", true)
  | 30 => ("FlexGridModel", "isParked", "[Z", true)
  | 31 => ("FlexGridModel", "topOfAims", "I", false)
  | 32 => ("FlexGridModel", "moves", "I", false)
  | 33 => ("FlexGridModel", "planned", "I", false)
  | 34 => ("FlexGridModel", "parked", "I", false)
  | 35 => ("FlexGridModel", "comesTo", "[Z", true)
  | 36 => ("FlexGridModel", "triedBlocked", "I", false)
  | 37 => ("FlexGridModel", "triedRates", "I", false)
  | 38 => ("FlexGridModel", "triedTop", "I", false)
  | 39 => ("FlexGridModel", "triedLit", "I", false)
  | 40 => ("FlexGridModel", "stepWord", "[J", true)
  | 41 => ("FlexGridModel", "stepNumbers", "[I", true)
  | 42 => ("FlexGridModel", "longest", "I", false)
  | 43 => ("FlexGridModel", "rows", "I", false)
  | _ => ("FlexGridModel", "room", "I", false)
def tyX9 : Nat → FieldType := fun k => match k with
  | 0 => .array .int
  | 1 => .array .int
  | 2 => .boolean
  | 3 => .array .byte
  | 4 => .int
  | 5 => .int
  | 6 => .int
  | 7 => .int
  | 8 => .int
  | 9 => .int
  | 10 => .int
  | 11 => .int
  | 12 => .long
  | 13 => .array .int
  | 14 => .array .int
  | 15 => .array .int
  | 16 => .array .int
  | 17 => .array .int
  | 18 => .array .int
  | 19 => .int
  | 20 => .int
  | 21 => .int
  | 22 => .int
  | 23 => .array .int
  | 24 => .array .int
  | 25 => .array .int
  | 26 => .array .int
  | 27 => .array .int
  | 28 => .array .boolean
  | 29 => .array .boolean
  | 30 => .array .boolean
  | 31 => .int
  | 32 => .int
  | 33 => .int
  | 34 => .int
  | 35 => .array .boolean
  | 36 => .int
  | 37 => .int
  | 38 => .int
  | 39 => .int
  | 40 => .array .long
  | 41 => .array .int
  | 42 => .int
  | 43 => .int
  | _ => .int
abbrev wsX90 : List Cond := u_ws RX9 TX9 45
theorem nmX9 : ∀ a, a < 45 → ∀ b, b < 45 → a ≠ b → (TX9 a).2.1 ≠ (TX9 b).2.1 := by decide +kernel
theorem tyX9_ok : ∀ k, k < 45 → parseFieldDescriptor (TX9 k).2.2.1 = some (tyX9 k) := by decide +kernel
abbrev cX9_init : ByteArray := prog_11_method_1_code
def yX9_init : MethodName := ⟨RX9, "<init>", "()V"⟩
abbrev cX9_in : ByteArray := prog_11_method_2_code
def yX9_in : MethodName := ⟨RX9, "in", "(III)Z"⟩
abbrev cX9_min : ByteArray := prog_11_method_3_code
def yX9_min : MethodName := ⟨RX9, "min", "(II)I"⟩
abbrev cX9_max : ByteArray := prog_11_method_4_code
def yX9_max : MethodName := ⟨RX9, "max", "(II)I"⟩
abbrev cX9_has : ByteArray := prog_11_method_5_code
def yX9_has : MethodName := ⟨RX9, "has", "(II)Z"⟩
abbrev cX9_sizeOf : ByteArray := prog_11_method_6_code
def yX9_sizeOf : MethodName := ⟨RX9, "sizeOf", "(I)I"⟩
abbrev cX9_copies : ByteArray := prog_11_method_7_code
def yX9_copies : MethodName := ⟨RX9, "copies", "(II)V"⟩
abbrev cX9_of : ByteArray := prog_11_method_8_code
def yX9_of : MethodName := ⟨RX9, "of", "(II)I"⟩
abbrev cX9_sets : ByteArray := prog_11_method_9_code
def yX9_sets : MethodName := ⟨RX9, "sets", "(III)V"⟩
abbrev cX9_isLit : ByteArray := prog_11_method_10_code
def yX9_isLit : MethodName := ⟨RX9, "isLit", "(I)Z"⟩
abbrev cX9_isDemand : ByteArray := prog_11_method_11_code
def yX9_isDemand : MethodName := ⟨RX9, "isDemand", "(I)Z"⟩
abbrev cX9_isRule : ByteArray := prog_11_method_12_code
def yX9_isRule : MethodName := ⟨RX9, "isRule", "(I)Z"⟩
abbrev cX9_types : ByteArray := prog_11_method_13_code
def yX9_types : MethodName := ⟨RX9, "types", "(I)V"⟩
abbrev cX9_feed : ByteArray := prog_11_method_14_code
def yX9_feed : MethodName := ⟨RX9, "feed", "(IIIII)I"⟩
abbrev cX9_here : ByteArray := prog_11_method_15_code
def yX9_here : MethodName := ⟨RX9, "here", "()I"⟩
abbrev cX9_wrongAt : ByteArray := prog_11_method_16_code
def yX9_wrongAt : MethodName := ⟨RX9, "wrongAt", "(II)Z"⟩
abbrev cX9_takesSign : ByteArray := prog_11_method_17_code
def yX9_takesSign : MethodName := ⟨RX9, "takesSign", "(I)Z"⟩
abbrev cX9_isDigit : ByteArray := prog_11_method_18_code
def yX9_isDigit : MethodName := ⟨RX9, "isDigit", "(I)Z"⟩
abbrev cX9_readsWord : ByteArray := prog_11_method_19_code
def yX9_readsWord : MethodName := ⟨RX9, "readsWord", "()V"⟩
abbrev cX9_readsNumber : ByteArray := prog_11_method_20_code
def yX9_readsNumber : MethodName := ⟨RX9, "readsNumber", "(II)Z"⟩
abbrev cX9_keepsNumber : ByteArray := prog_11_method_21_code
def yX9_keepsNumber : MethodName := ⟨RX9, "keepsNumber", "(I)Z"⟩
abbrev cX9_beginsText : ByteArray := prog_11_method_22_code
def yX9_beginsText : MethodName := ⟨RX9, "beginsText", "(I)Z"⟩
abbrev cX9_begins : ByteArray := prog_11_method_23_code
def yX9_begins : MethodName := ⟨RX9, "begins", "()V"⟩
abbrev cX9_takesDraft : ByteArray := prog_11_method_24_code
def yX9_takesDraft : MethodName := ⟨RX9, "takesDraft", "()V"⟩
abbrev cX9_isLinkedInDraft : ByteArray := prog_11_method_25_code
def yX9_isLinkedInDraft : MethodName := ⟨RX9, "isLinkedInDraft", "(II)Z"⟩
abbrev cX9_readsLink : ByteArray := prog_11_method_26_code
def yX9_readsLink : MethodName := ⟨RX9, "readsLink", "()Z"⟩
abbrev cX9_readsReach : ByteArray := prog_11_method_27_code
def yX9_readsReach : MethodName := ⟨RX9, "readsReach", "()Z"⟩
abbrev cX9_readsNodes : ByteArray := prog_11_method_28_code
def yX9_readsNodes : MethodName := ⟨RX9, "readsNodes", "()Z"⟩
abbrev cX9_readsClause : ByteArray := prog_11_method_29_code
def yX9_readsClause : MethodName := ⟨RX9, "readsClause", "()Z"⟩
abbrev cX9_grid : ByteArray := prog_11_method_30_code
def yX9_grid : MethodName := ⟨RX9, "grid", "(I)I"⟩
abbrev cX9_isUp : ByteArray := prog_11_method_31_code
def yX9_isUp : MethodName := ⟨RX9, "isUp", "(I)Z"⟩
abbrev cX9_beyond : ByteArray := prog_11_method_32_code
def yX9_beyond : MethodName := ⟨RX9, "beyond", "(II)I"⟩
abbrev cX9_ranks : ByteArray := prog_11_method_33_code
def yX9_ranks : MethodName := ⟨RX9, "ranks", "(I)V"⟩
abbrev cX9_changes : ByteArray := prog_11_method_34_code
def yX9_changes : MethodName := ⟨RX9, "changes", "([II)V"⟩
abbrev cX9_isAhead : ByteArray := prog_11_method_35_code
def yX9_isAhead : MethodName := ⟨RX9, "isAhead", "(II)Z"⟩
abbrev cX9_laysWay : ByteArray := prog_11_method_36_code
def yX9_laysWay : MethodName := ⟨RX9, "laysWay", "(III)V"⟩
abbrev cX9_findsWays : ByteArray := prog_11_method_37_code
def yX9_findsWays : MethodName := ⟨RX9, "findsWays", "(II)V"⟩
abbrev cX9_formatBy : ByteArray := prog_11_method_38_code
def yX9_formatBy : MethodName := ⟨RX9, "formatBy", "(I)I"⟩
abbrev cX9_widthOn : ByteArray := prog_11_method_39_code
def yX9_widthOn : MethodName := ⟨RX9, "widthOn", "(II)I"⟩
abbrev cX9_areNodes : ByteArray := prog_11_method_40_code
def yX9_areNodes : MethodName := ⟨RX9, "areNodes", "(II)Z"⟩
abbrev cX9_isRate : ByteArray := prog_11_method_41_code
def yX9_isRate : MethodName := ⟨RX9, "isRate", "(I)Z"⟩
abbrev cX9_way : ByteArray := prog_11_method_42_code
def yX9_way : MethodName := ⟨RX9, "way", "(IIII)I"⟩
abbrev cX9_keepsFrom : ByteArray := prog_11_method_43_code
def yX9_keepsFrom : MethodName := ⟨RX9, "keepsFrom", "(IIII)Z"⟩
abbrev cX9_against : ByteArray := prog_11_method_44_code
def yX9_against : MethodName := ⟨RX9, "against", "(IIII)I"⟩
abbrev cX9_fits : ByteArray := prog_11_method_45_code
def yX9_fits : MethodName := ⟨RX9, "fits", "(IIII)Z"⟩
abbrev cX9_isFree : ByteArray := prog_11_method_46_code
def yX9_isFree : MethodName := ⟨RX9, "isFree", "(II)Z"⟩
abbrev cX9_rowAbout : ByteArray := prog_11_method_47_code
def yX9_rowAbout : MethodName := ⟨RX9, "rowAbout", "(III)I"⟩
abbrev cX9_finds : ByteArray := prog_11_method_48_code
def yX9_finds : MethodName := ⟨RX9, "finds", "(II)Z"⟩
abbrev cX9_findsFor : ByteArray := prog_11_method_49_code
def yX9_findsFor : MethodName := ⟨RX9, "findsFor", "(IIII)Z"⟩
abbrev cX9_lights : ByteArray := prog_11_method_50_code
def yX9_lights : MethodName := ⟨RX9, "lights", "(I)V"⟩
abbrev cX9_comes : ByteArray := prog_11_method_51_code
def yX9_comes : MethodName := ⟨RX9, "comes", "(IIIZ)I"⟩
abbrev cX9_isAsked : ByteArray := prog_11_method_52_code
def yX9_isAsked : MethodName := ⟨RX9, "isAsked", "(IIII)Z"⟩
abbrev cX9_ask : ByteArray := prog_11_method_53_code
def yX9_ask : MethodName := ⟨RX9, "ask", "(IIII)I"⟩
abbrev cX9_found : ByteArray := prog_11_method_54_code
def yX9_found : MethodName := ⟨RX9, "found", "(IIIII)I"⟩
abbrev cX9_witness : ByteArray := prog_11_method_55_code
def yX9_witness : MethodName := ⟨RX9, "witness", "(IIIII)I"⟩
abbrev cX9_witnesses : ByteArray := prog_11_method_56_code
def yX9_witnesses : MethodName := ⟨RX9, "witnesses", "(I)I"⟩
abbrev cX9_blocked : ByteArray := prog_11_method_57_code
def yX9_blocked : MethodName := ⟨RX9, "blocked", "(IIII)I"⟩
abbrev cX9_drop : ByteArray := prog_11_method_58_code
def yX9_drop : MethodName := ⟨RX9, "drop", "(I)Z"⟩
abbrev cX9_lowest : ByteArray := prog_11_method_59_code
def yX9_lowest : MethodName := ⟨RX9, "lowest", "(I)I"⟩
abbrev cX9_slides : ByteArray := prog_11_method_60_code
def yX9_slides : MethodName := ⟨RX9, "slides", "(I)I"⟩
abbrev cX9_slide : ByteArray := prog_11_method_61_code
def yX9_slide : MethodName := ⟨RX9, "slide", "(I)I"⟩
abbrev cX9_sweep : ByteArray := prog_11_method_62_code
def yX9_sweep : MethodName := ⟨RX9, "sweep", "()I"⟩
abbrev cX9_sweeps : ByteArray := prog_11_method_63_code
def yX9_sweeps : MethodName := ⟨RX9, "sweeps", "()I"⟩
abbrev cX9_canJump : ByteArray := prog_11_method_64_code
def yX9_canJump : MethodName := ⟨RX9, "canJump", "(II)Z"⟩
abbrev cX9_jump : ByteArray := prog_11_method_65_code
def yX9_jump : MethodName := ⟨RX9, "jump", "(II)I"⟩
abbrev cX9_isLink : ByteArray := prog_11_method_66_code
def yX9_isLink : MethodName := ⟨RX9, "isLink", "(I)Z"⟩
abbrev cX9_cuts : ByteArray := prog_11_method_67_code
def yX9_cuts : MethodName := ⟨RX9, "cuts", "(I)I"⟩
abbrev cX9_cut : ByteArray := prog_11_method_68_code
def yX9_cut : MethodName := ⟨RX9, "cut", "(I)I"⟩
abbrev cX9_mend : ByteArray := prog_11_method_69_code
def yX9_mend : MethodName := ⟨RX9, "mend", "(I)Z"⟩
abbrev cX9_relights : ByteArray := prog_11_method_70_code
def yX9_relights : MethodName := ⟨RX9, "relights", "(I)I"⟩
abbrev cX9_relight : ByteArray := prog_11_method_71_code
def yX9_relight : MethodName := ⟨RX9, "relight", "(I)I"⟩
abbrev cX9_topOn : ByteArray := prog_11_method_72_code
def yX9_topOn : MethodName := ⟨RX9, "topOn", "(I)I"⟩
abbrev cX9_top : ByteArray := prog_11_method_73_code
def yX9_top : MethodName := ⟨RX9, "top", "()I"⟩
abbrev cX9_aims : ByteArray := prog_11_method_74_code
def yX9_aims : MethodName := ⟨RX9, "aims", "(I)Z"⟩
abbrev cX9_isLeft : ByteArray := prog_11_method_75_code
def yX9_isLeft : MethodName := ⟨RX9, "isLeft", "(I)Z"⟩
abbrev cX9_waitsFor : ByteArray := prog_11_method_76_code
def yX9_waitsFor : MethodName := ⟨RX9, "waitsFor", "(II)Z"⟩
abbrev cX9_waitsMany : ByteArray := prog_11_method_77_code
def yX9_waitsMany : MethodName := ⟨RX9, "waitsMany", "(I)I"⟩
abbrev cX9_nextMove : ByteArray := prog_11_method_78_code
def yX9_nextMove : MethodName := ⟨RX9, "nextMove", "()I"⟩
abbrev cX9_plans : ByteArray := prog_11_method_79_code
def yX9_plans : MethodName := ⟨RX9, "plans", "()V"⟩
abbrev cX9_plan : ByteArray := prog_11_method_80_code
def yX9_plan : MethodName := ⟨RX9, "plan", "(I)I"⟩
abbrev cX9_rounds : ByteArray := prog_11_method_81_code
def yX9_rounds : MethodName := ⟨RX9, "rounds", "()I"⟩
abbrev cX9_repack : ByteArray := prog_11_method_82_code
def yX9_repack : MethodName := ⟨RX9, "repack", "(II)I"⟩
abbrev cX9_planned : ByteArray := prog_11_method_83_code
def yX9_planned : MethodName := ⟨RX9, "planned", "(III)I"⟩
abbrev cX9_waits : ByteArray := prog_11_method_84_code
def yX9_waits : MethodName := ⟨RX9, "waits", "(II)I"⟩
abbrev cX9_parkFor : ByteArray := prog_11_method_85_code
def yX9_parkFor : MethodName := ⟨RX9, "parkFor", "(I)I"⟩
abbrev cX9_parks : ByteArray := prog_11_method_86_code
def yX9_parks : MethodName := ⟨RX9, "parks", "()Z"⟩
abbrev cX9_unravel : ByteArray := prog_11_method_87_code
def yX9_unravel : MethodName := ⟨RX9, "unravel", "(II)I"⟩
abbrev cX9_lasts : ByteArray := prog_11_method_88_code
def yX9_lasts : MethodName := ⟨RX9, "lasts", "(II)I"⟩
abbrev cX9_ends : ByteArray := prog_11_method_89_code
def yX9_ends : MethodName := ⟨RX9, "ends", "(I)I"⟩
abbrev cX9_ticks : ByteArray := prog_11_method_90_code
def yX9_ticks : MethodName := ⟨RX9, "ticks", "(I)I"⟩
abbrev cX9_drawn : ByteArray := prog_11_method_91_code
def yX9_drawn : MethodName := ⟨RX9, "drawn", "(I)I"⟩
abbrev cX9_litMany : ByteArray := prog_11_method_92_code
def yX9_litMany : MethodName := ⟨RX9, "litMany", "()I"⟩
abbrev cX9_tries : ByteArray := prog_11_method_93_code
def yX9_tries : MethodName := ⟨RX9, "tries", "(III)V"⟩
abbrev cX9_isTrial : ByteArray := prog_11_method_94_code
def yX9_isTrial : MethodName := ⟨RX9, "isTrial", "(II)Z"⟩
abbrev cX9_trial : ByteArray := prog_11_method_95_code
def yX9_trial : MethodName := ⟨RX9, "trial", "(IIII)I"⟩
abbrev cX9_bestRule : ByteArray := prog_11_method_96_code
def yX9_bestRule : MethodName := ⟨RX9, "bestRule", "(II)I"⟩
abbrev cX9_partOf : ByteArray := prog_11_method_97_code
def yX9_partOf : MethodName := ⟨RX9, "partOf", "(II)I"⟩
abbrev cX9_parts : ByteArray := prog_11_method_98_code
def yX9_parts : MethodName := ⟨RX9, "parts", "(IIII)I"⟩
abbrev cX9_more : ByteArray := prog_11_method_99_code
def yX9_more : MethodName := ⟨RX9, "more", "(IIII)I"⟩
abbrev cX9_ifCut : ByteArray := prog_11_method_100_code
def yX9_ifCut : MethodName := ⟨RX9, "ifCut", "(III)I"⟩
abbrev cX9_numbersOf : ByteArray := prog_11_method_101_code
def yX9_numbersOf : MethodName := ⟨RX9, "numbersOf", "(J)I"⟩
abbrev cX9_isRuleAt : ByteArray := prog_11_method_102_code
def yX9_isRuleAt : MethodName := ⟨RX9, "isRuleAt", "(JI)Z"⟩
abbrev cX9_readsStep : ByteArray := prog_11_method_103_code
def yX9_readsStep : MethodName := ⟨RX9, "readsStep", "()Z"⟩
abbrev cX9_does : ByteArray := prog_11_method_104_code
def yX9_does : MethodName := ⟨RX9, "does", "(I)Z"⟩
abbrev cX9_works : ByteArray := prog_11_method_105_code
def yX9_works : MethodName := ⟨RX9, "works", "(I)I"⟩
abbrev cX9_countOf : ByteArray := prog_11_method_106_code
def yX9_countOf : MethodName := ⟨RX9, "countOf", "(I)I"⟩
abbrev cX9_usedOn : ByteArray := prog_11_method_107_code
def yX9_usedOn : MethodName := ⟨RX9, "usedOn", "(I)I"⟩
abbrev cX9_usedOnAll : ByteArray := prog_11_method_108_code
def yX9_usedOnAll : MethodName := ⟨RX9, "usedOnAll", "()I"⟩
abbrev cX9_gridIs : ByteArray := prog_11_method_109_code
def yX9_gridIs : MethodName := ⟨RX9, "gridIs", "(I)I"⟩
abbrev cX9_findsRows : ByteArray := prog_11_method_110_code
def yX9_findsRows : MethodName := ⟨RX9, "findsRows", "(II)V"⟩
abbrev cX9_litOn : ByteArray := prog_11_method_111_code
def yX9_litOn : MethodName := ⟨RX9, "litOn", "(I)I"⟩
abbrev cX9_tornOf : ByteArray := prog_11_method_112_code
def yX9_tornOf : MethodName := ⟨RX9, "tornOf", "(I)I"⟩
abbrev cX9_linkIs : ByteArray := prog_11_method_113_code
def yX9_linkIs : MethodName := ⟨RX9, "linkIs", "(II)I"⟩
abbrev cX9_lengthOf : ByteArray := prog_11_method_114_code
def yX9_lengthOf : MethodName := ⟨RX9, "lengthOf", "(I)I"⟩
abbrev cX9_demandIs : ByteArray := prog_11_method_115_code
def yX9_demandIs : MethodName := ⟨RX9, "demandIs", "(II)I"⟩
abbrev cX9_seed : ByteArray := prog_11_method_116_code
def yX9_seed : MethodName := ⟨RX9, "seed", "(I)Z"⟩
abbrev cX9_keep : ByteArray := prog_11_method_117_code
def yX9_keep : MethodName := ⟨RX9, "keep", "()I"⟩
abbrev cX9_undo : ByteArray := prog_11_method_118_code
def yX9_undo : MethodName := ⟨RX9, "undo", "()Z"⟩
abbrev cX9_check : ByteArray := prog_11_method_119_code
def yX9_check : MethodName := ⟨RX9, "check", "(I)I"⟩
abbrev cX9_count : ByteArray := prog_11_method_120_code
def yX9_count : MethodName := ⟨RX9, "count", "(I)I"⟩
def RJ6 : String := "java/lang/Integer"
def TJ6 : u_T := fun k => match k with
  | _ => ("", "", "", false)
def tyJ6 : Nat → FieldType := fun k => match k with
  | _ => .int
abbrev wsJ60 : List Cond := u_ws RJ6 TJ6 0
theorem nmJ6 : ∀ a, a < 0 → ∀ b, b < 0 → a ≠ b → (TJ6 a).2.1 ≠ (TJ6 b).2.1 := by decide +kernel
theorem tyJ6_ok : ∀ k, k < 0 → parseFieldDescriptor (TJ6 k).2.2.1 = some (tyJ6 k) := by decide +kernel
abbrev cJ6_bitCount_0f7a4 : ByteArray := prog_12_method_49_code
def yJ6_bitCount_0f7a4 : MethodName := ⟨RJ6, "bitCount", "(I)I"⟩
def RJ13 : String := "java/lang/Long"
def TJ13 : u_T := fun k => match k with
  | _ => ("", "", "", false)
def tyJ13 : Nat → FieldType := fun k => match k with
  | _ => .int
abbrev wsJ130 : List Cond := u_ws RJ13 TJ13 0
theorem nmJ13 : ∀ a, a < 0 → ∀ b, b < 0 → a ≠ b → (TJ13 a).2.1 ≠ (TJ13 b).2.1 := by decide +kernel
theorem tyJ13_ok : ∀ k, k < 0 → parseFieldDescriptor (TJ13 k).2.2.1 = some (tyJ13 k) := by decide +kernel
abbrev cJ13_bitCount_95d88 : ByteArray := prog_13_method_50_code
def yJ13_bitCount_95d88 : MethodName := ⟨RJ13, "bitCount", "(J)I"⟩
def RJ9 : String := "java/lang/Math"
def TJ9 : u_T := fun k => match k with
  | _ => ("", "", "", false)
def tyJ9 : Nat → FieldType := fun k => match k with
  | _ => .int
abbrev wsJ90 : List Cond := u_ws RJ9 TJ9 0
theorem nmJ9 : ∀ a, a < 0 → ∀ b, b < 0 → a ≠ b → (TJ9 a).2.1 ≠ (TJ9 b).2.1 := by decide +kernel
theorem tyJ9_ok : ∀ k, k < 0 → parseFieldDescriptor (TJ9 k).2.2.1 = some (tyJ9 k) := by decide +kernel
abbrev cJ9_max_7cf53 : ByteArray := prog_14_method_65_code
def yJ9_max_7cf53 : MethodName := ⟨RJ9, "max", "(II)I"⟩
abbrev cJ9_min_7cf53 : ByteArray := prog_14_method_69_code
def yJ9_min_7cf53 : MethodName := ⟨RJ9, "min", "(II)I"⟩
def RJ0 : String := "java/lang/String"
def TJ0 : u_T := fun k => match k with
  | _ => ("", "", "", false)
def tyJ0 : Nat → FieldType := fun k => match k with
  | _ => .int
abbrev wsJ00 : List Cond := u_ws RJ0 TJ0 0
theorem nmJ0 : ∀ a, a < 0 → ∀ b, b < 0 → a ≠ b → (TJ0 a).2.1 ≠ (TJ0 b).2.1 := by decide +kernel
theorem tyJ0_ok : ∀ k, k < 0 → parseFieldDescriptor (TJ0 k).2.2.1 = some (tyJ0 k) := by decide +kernel
abbrev cJ0_length_8abf5 : ByteArray := prog_15_method_54_code
def yJ0_length_8abf5 : MethodName := ⟨RJ0, "length", "()I"⟩
abbrev cJ0_charAt_5068e : ByteArray := prog_15_method_56_code
def yJ0_charAt_5068e : MethodName := ⟨RJ0, "charAt", "(I)C"⟩
abbrev cJ0_coder_7d493 : ByteArray := prog_15_method_152_code
def yJ0_coder_7d493 : MethodName := ⟨RJ0, "coder", "()B"⟩
abbrev cJ0_isLatin1_aae02 : ByteArray := prog_15_method_154_code
def yJ0_isLatin1_aae02 : MethodName := ⟨RJ0, "isLatin1", "()Z"⟩
abbrev cJ0_checkIndex_df160 : ByteArray := prog_15_method_155_code
def yJ0_checkIndex_df160 : MethodName := ⟨RJ0, "checkIndex", "(II)V"⟩
def RJ1 : String := "java/lang/StringLatin1"
def TJ1 : u_T := fun k => match k with
  | _ => ("", "", "", false)
def tyJ1 : Nat → FieldType := fun k => match k with
  | _ => .int
abbrev wsJ10 : List Cond := u_ws RJ1 TJ1 0
theorem nmJ1 : ∀ a, a < 0 → ∀ b, b < 0 → a ≠ b → (TJ1 a).2.1 ≠ (TJ1 b).2.1 := by decide +kernel
theorem tyJ1_ok : ∀ k, k < 0 → parseFieldDescriptor (TJ1 k).2.2.1 = some (tyJ1 k) := by decide +kernel
abbrev cJ1_charAt_3b067 : ByteArray := prog_16_method_2_code
def yJ1_charAt_3b067 : MethodName := ⟨RJ1, "charAt", "([BI)C"⟩
def RJ2 : String := "java/lang/StringUTF16"
def TJ2 : u_T := fun k => match k with
  | _ => ("", "", "", false)
def tyJ2 : Nat → FieldType := fun k => match k with
  | _ => .int
abbrev wsJ20 : List Cond := u_ws RJ2 TJ2 0
theorem nmJ2 : ∀ a, a < 0 → ∀ b, b < 0 → a ≠ b → (TJ2 a).2.1 ≠ (TJ2 b).2.1 := by decide +kernel
theorem tyJ2_ok : ∀ k, k < 0 → parseFieldDescriptor (TJ2 k).2.2.1 = some (tyJ2 k) := by decide +kernel
abbrev cJ2_getChar_3b067 : ByteArray := prog_17_method_5_code
def yJ2_getChar_3b067 : MethodName := ⟨RJ2, "getChar", "([BI)C"⟩
abbrev cJ2_length_9d52b : ByteArray := prog_17_method_6_code
def yJ2_length_9d52b : MethodName := ⟨RJ2, "length", "([B)I"⟩
abbrev cJ2_charAt_3b067 : ByteArray := prog_17_method_83_code
def yJ2_charAt_3b067 : MethodName := ⟨RJ2, "charAt", "([BI)C"⟩
abbrev cJ2_checkIndex_2214a : ByteArray := prog_17_method_91_code
def yJ2_checkIndex_2214a : MethodName := ⟨RJ2, "checkIndex", "(I[B)V"⟩
def RJ10 : String := "java/lang/System"
def TJ10 : u_T := fun k => match k with
  | _ => ("", "", "", false)
def tyJ10 : Nat → FieldType := fun k => match k with
  | _ => .int
abbrev wsJ100 : List Cond := u_ws RJ10 TJ10 0
theorem nmJ10 : ∀ a, a < 0 → ∀ b, b < 0 → a ≠ b → (TJ10 a).2.1 ≠ (TJ10 b).2.1 := by decide +kernel
theorem tyJ10_ok : ∀ k, k < 0 → parseFieldDescriptor (TJ10 k).2.2.1 = some (tyJ10 k) := by decide +kernel
def RJ3 : String := "jdk/internal/util/Preconditions"
def TJ3 : u_T := fun k => match k with
  | _ => ("", "", "", false)
def tyJ3 : Nat → FieldType := fun k => match k with
  | _ => .int
abbrev wsJ30 : List Cond := u_ws RJ3 TJ3 0
theorem nmJ3 : ∀ a, a < 0 → ∀ b, b < 0 → a ≠ b → (TJ3 a).2.1 ≠ (TJ3 b).2.1 := by decide +kernel
theorem tyJ3_ok : ∀ k, k < 0 → parseFieldDescriptor (TJ3 k).2.2.1 = some (tyJ3 k) := by decide +kernel
abbrev cJ3_checkIndex_8e157 : ByteArray := prog_19_method_11_code
def yJ3_checkIndex_8e157 : MethodName := ⟨RJ3, "checkIndex", "(IILjava/util/function/BiFunction;)I"⟩
def RL : String := "FlexGridLaw"
abbrev cL_law : ByteArray := code
def yL_law : MethodName := ⟨RL, "law", "([I)Z"⟩
