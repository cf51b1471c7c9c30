-- ===== PART A: goes FIRST, ahead of the names: the tables' words, and 'selects' of the private methods out of them =====
/-- a private method of a class that the tables say can be made, by its rows of tables_1 -/
def lw_okq (q : MethodName × Nat) : Prop := (q.1.cls ≠ "java/lang/invoke/MethodHandle" ∧ q.1.cls ≠ "java/lang/invoke/VarHandle") ∧ Cond.instantiable q.1.cls q.2 ∈ tables_1 ∧ Cond.privateMethod q.1 ∈ tables_1 ∧ Cond.instanceMethod q.1 ∈ tables_1
theorem lw_p0 : lw_okq (⟨"FeltByTwin$Register", "beginBirth", "()Z"⟩, 3) := ⟨⟨by decide +kernel, by decide +kernel⟩, List.mem_of_getElem? (i := 170) (by decide +kernel), List.mem_of_getElem? (i := 302) (by decide +kernel), List.mem_of_getElem? (i := 303) (by decide +kernel)⟩
theorem lw_p1 : lw_okq (⟨"FeltByTwin$Register", "take", "(I)Z"⟩, 3) := ⟨⟨by decide +kernel, by decide +kernel⟩, List.mem_of_getElem? (i := 170) (by decide +kernel), List.mem_of_getElem? (i := 315) (by decide +kernel), List.mem_of_getElem? (i := 316) (by decide +kernel)⟩
theorem lw_p2 : lw_okq (⟨"FeltByTwin$Register", "takeDigit", "(LFeltByTwin$Birth;I)Z"⟩, 3) := ⟨⟨by decide +kernel, by decide +kernel⟩, List.mem_of_getElem? (i := 170) (by decide +kernel), List.mem_of_getElem? (i := 331) (by decide +kernel), List.mem_of_getElem? (i := 332) (by decide +kernel)⟩
theorem lw_p3 : lw_okq (⟨"FeltByTwin$Touches", "isOverBehind", "(LFeltByTwin$Register;II)Z"⟩, 4) := ⟨⟨by decide +kernel, by decide +kernel⟩, List.mem_of_getElem? (i := 40) (by decide +kernel), List.mem_of_getElem? (i := 478) (by decide +kernel), List.mem_of_getElem? (i := 479) (by decide +kernel)⟩
theorem lw_p4 : lw_okq (⟨"FeltByTwin$Touches", "talliedFor", "(II)I"⟩, 4) := ⟨⟨by decide +kernel, by decide +kernel⟩, List.mem_of_getElem? (i := 40) (by decide +kernel), List.mem_of_getElem? (i := 482) (by decide +kernel), List.mem_of_getElem? (i := 483) (by decide +kernel)⟩
theorem lw_p5 : lw_okq (⟨"FeltByTwin$News", "addPinches", "(LFeltByTwin$Birth;[I)V"⟩, 4) := ⟨⟨by decide +kernel, by decide +kernel⟩, List.mem_of_getElem? (i := 59) (by decide +kernel), List.mem_of_getElem? (i := 519) (by decide +kernel), List.mem_of_getElem? (i := 520) (by decide +kernel)⟩
theorem lw_p6 : lw_okq (⟨"FeltByTwin$Ways", "joinThrough", "(II)V"⟩, 1) := ⟨⟨by decide +kernel, by decide +kernel⟩, List.mem_of_getElem? (i := 65) (by decide +kernel), List.mem_of_getElem? (i := 534) (by decide +kernel), List.mem_of_getElem? (i := 535) (by decide +kernel)⟩
theorem lw_p7 : lw_okq (⟨"FeltByTwin$News", "isWithinByOne", "(I)Z"⟩, 4) := ⟨⟨by decide +kernel, by decide +kernel⟩, List.mem_of_getElem? (i := 59) (by decide +kernel), List.mem_of_getElem? (i := 568) (by decide +kernel), List.mem_of_getElem? (i := 569) (by decide +kernel)⟩
theorem lw_p8 : lw_okq (⟨"FeltByTwin$Ways", "betweenWithBond", "(IIII)I"⟩, 1) := ⟨⟨by decide +kernel, by decide +kernel⟩, List.mem_of_getElem? (i := 65) (by decide +kernel), List.mem_of_getElem? (i := 580) (by decide +kernel), List.mem_of_getElem? (i := 581) (by decide +kernel)⟩
theorem lw_p9 : lw_okq (⟨"FeltByTwin$News", "notePair", "(II)V"⟩, 4) := ⟨⟨by decide +kernel, by decide +kernel⟩, List.mem_of_getElem? (i := 59) (by decide +kernel), List.mem_of_getElem? (i := 584) (by decide +kernel), List.mem_of_getElem? (i := 585) (by decide +kernel)⟩
theorem lw_p10 : lw_okq (⟨"FeltByTwin$News", "isWithinByTwo", "(I)Z"⟩, 4) := ⟨⟨by decide +kernel, by decide +kernel⟩, List.mem_of_getElem? (i := 59) (by decide +kernel), List.mem_of_getElem? (i := 588) (by decide +kernel), List.mem_of_getElem? (i := 589) (by decide +kernel)⟩
theorem lw_p11 : lw_okq (⟨"FeltByTwin$Rows", "choose", "(IIII)V"⟩, 3) := ⟨⟨by decide +kernel, by decide +kernel⟩, List.mem_of_getElem? (i := 126) (by decide +kernel), List.mem_of_getElem? (i := 633) (by decide +kernel), List.mem_of_getElem? (i := 634) (by decide +kernel)⟩
theorem lw_p12 : lw_okq (⟨"FeltByTwin$Crowd", "pairUp", "(II)I"⟩, 6) := ⟨⟨by decide +kernel, by decide +kernel⟩, List.mem_of_getElem? (i := 101) (by decide +kernel), List.mem_of_getElem? (i := 711) (by decide +kernel), List.mem_of_getElem? (i := 712) (by decide +kernel)⟩
theorem lw_p13 : lw_okq (⟨"FeltByTwin$Crowd", "mayBeTwins", "(II)Z"⟩, 6) := ⟨⟨by decide +kernel, by decide +kernel⟩, List.mem_of_getElem? (i := 101) (by decide +kernel), List.mem_of_getElem? (i := 719) (by decide +kernel), List.mem_of_getElem? (i := 720) (by decide +kernel)⟩
theorem lw_p14 : lw_okq (⟨"FeltByTwin", "mixBirths", "(J)J"⟩, 12) := ⟨⟨by decide +kernel, by decide +kernel⟩, List.mem_of_getElem? (i := 18) (by decide +kernel), List.mem_of_getElem? (i := 791) (by decide +kernel), List.mem_of_getElem? (i := 792) (by decide +kernel)⟩
theorem lw_p15 : lw_okq (⟨"FeltByTwin", "mixPeople", "(J)J"⟩, 12) := ⟨⟨by decide +kernel, by decide +kernel⟩, List.mem_of_getElem? (i := 18) (by decide +kernel), List.mem_of_getElem? (i := 800) (by decide +kernel), List.mem_of_getElem? (i := 801) (by decide +kernel)⟩
def lw_privs_1 : List (MethodName × Nat) := [(⟨"FeltByTwin$Register", "beginBirth", "()Z"⟩, 3), (⟨"FeltByTwin$Register", "take", "(I)Z"⟩, 3), (⟨"FeltByTwin$Register", "takeDigit", "(LFeltByTwin$Birth;I)Z"⟩, 3), (⟨"FeltByTwin$Touches", "isOverBehind", "(LFeltByTwin$Register;II)Z"⟩, 4), (⟨"FeltByTwin$Touches", "talliedFor", "(II)I"⟩, 4), (⟨"FeltByTwin$News", "addPinches", "(LFeltByTwin$Birth;[I)V"⟩, 4), (⟨"FeltByTwin$Ways", "joinThrough", "(II)V"⟩, 1), (⟨"FeltByTwin$News", "isWithinByOne", "(I)Z"⟩, 4), (⟨"FeltByTwin$Ways", "betweenWithBond", "(IIII)I"⟩, 1), (⟨"FeltByTwin$News", "notePair", "(II)V"⟩, 4), (⟨"FeltByTwin$News", "isWithinByTwo", "(I)Z"⟩, 4), (⟨"FeltByTwin$Rows", "choose", "(IIII)V"⟩, 3), (⟨"FeltByTwin$Crowd", "pairUp", "(II)I"⟩, 6), (⟨"FeltByTwin$Crowd", "mayBeTwins", "(II)Z"⟩, 6), (⟨"FeltByTwin", "mixBirths", "(J)J"⟩, 12), (⟨"FeltByTwin", "mixPeople", "(J)J"⟩, 12)]
theorem lw_r1 : ∀ q ∈ lw_privs_1, lw_okq q := List.forall_mem_cons.mpr ⟨lw_p0, List.forall_mem_cons.mpr ⟨lw_p1, List.forall_mem_cons.mpr ⟨lw_p2, List.forall_mem_cons.mpr ⟨lw_p3, List.forall_mem_cons.mpr ⟨lw_p4, List.forall_mem_cons.mpr ⟨lw_p5, List.forall_mem_cons.mpr ⟨lw_p6, List.forall_mem_cons.mpr ⟨lw_p7, List.forall_mem_cons.mpr ⟨lw_p8, List.forall_mem_cons.mpr ⟨lw_p9, List.forall_mem_cons.mpr ⟨lw_p10, List.forall_mem_cons.mpr ⟨lw_p11, List.forall_mem_cons.mpr ⟨lw_p12, List.forall_mem_cons.mpr ⟨lw_p13, List.forall_mem_cons.mpr ⟨lw_p14, List.forall_mem_cons.mpr ⟨lw_p15, fun _ h => absurd h List.not_mem_nil⟩⟩⟩⟩⟩⟩⟩⟩⟩⟩⟩⟩⟩⟩⟩⟩
theorem lw_p16 : lw_okq (⟨"FeltByTwin", "mixNews", "(J)J"⟩, 12) := ⟨⟨by decide +kernel, by decide +kernel⟩, List.mem_of_getElem? (i := 18) (by decide +kernel), List.mem_of_getElem? (i := 807) (by decide +kernel), List.mem_of_getElem? (i := 808) (by decide +kernel)⟩
theorem lw_p17 : lw_okq (⟨"FeltByTwin", "mixBook", "(J)J"⟩, 12) := ⟨⟨by decide +kernel, by decide +kernel⟩, List.mem_of_getElem? (i := 18) (by decide +kernel), List.mem_of_getElem? (i := 811) (by decide +kernel), List.mem_of_getElem? (i := 812) (by decide +kernel)⟩
theorem lw_p18 : lw_okq (⟨"FeltByTwin", "mixCrowd", "(J)J"⟩, 12) := ⟨⟨by decide +kernel, by decide +kernel⟩, List.mem_of_getElem? (i := 18) (by decide +kernel), List.mem_of_getElem? (i := 816) (by decide +kernel), List.mem_of_getElem? (i := 817) (by decide +kernel)⟩
theorem lw_p19 : lw_okq (⟨"FeltByTwin", "mixPage", "(J)J"⟩, 12) := ⟨⟨by decide +kernel, by decide +kernel⟩, List.mem_of_getElem? (i := 18) (by decide +kernel), List.mem_of_getElem? (i := 820) (by decide +kernel), List.mem_of_getElem? (i := 821) (by decide +kernel)⟩
theorem lw_p20 : lw_okq (⟨"FeltByTwinModel", "faultOf", "()I"⟩, 35) := ⟨⟨by decide +kernel, by decide +kernel⟩, List.mem_of_getElem? (i := 826) (by decide +kernel), List.mem_of_getElem? (i := 971) (by decide +kernel), List.mem_of_getElem? (i := 972) (by decide +kernel)⟩
theorem lw_p21 : lw_okq (⟨"FeltByTwinModel", "go", "(I)Z"⟩, 35) := ⟨⟨by decide +kernel, by decide +kernel⟩, List.mem_of_getElem? (i := 826) (by decide +kernel), List.mem_of_getElem? (i := 975) (by decide +kernel), List.mem_of_getElem? (i := 976) (by decide +kernel)⟩
theorem lw_p22 : lw_okq (⟨"FeltByTwinModel", "goPerson", "(I)Z"⟩, 35) := ⟨⟨by decide +kernel, by decide +kernel⟩, List.mem_of_getElem? (i := 826) (by decide +kernel), List.mem_of_getElem? (i := 979) (by decide +kernel), List.mem_of_getElem? (i := 980) (by decide +kernel)⟩
theorem lw_p23 : lw_okq (⟨"FeltByTwinModel", "isBirth", "()Z"⟩, 35) := ⟨⟨by decide +kernel, by decide +kernel⟩, List.mem_of_getElem? (i := 826) (by decide +kernel), List.mem_of_getElem? (i := 985) (by decide +kernel), List.mem_of_getElem? (i := 986) (by decide +kernel)⟩
theorem lw_p24 : lw_okq (⟨"FeltByTwinModel", "tellPerson", "(II)I"⟩, 35) := ⟨⟨by decide +kernel, by decide +kernel⟩, List.mem_of_getElem? (i := 826) (by decide +kernel), List.mem_of_getElem? (i := 1007) (by decide +kernel), List.mem_of_getElem? (i := 1008) (by decide +kernel)⟩
theorem lw_p25 : lw_okq (⟨"FeltByTwinModel", "touchedBy", "(II)I"⟩, 35) := ⟨⟨by decide +kernel, by decide +kernel⟩, List.mem_of_getElem? (i := 826) (by decide +kernel), List.mem_of_getElem? (i := 1011) (by decide +kernel), List.mem_of_getElem? (i := 1012) (by decide +kernel)⟩
theorem lw_p26 : lw_okq (⟨"FeltByTwinModel", "feltOf", "(IIII)I"⟩, 35) := ⟨⟨by decide +kernel, by decide +kernel⟩, List.mem_of_getElem? (i := 826) (by decide +kernel), List.mem_of_getElem? (i := 1032) (by decide +kernel), List.mem_of_getElem? (i := 1033) (by decide +kernel)⟩
theorem lw_p27 : lw_okq (⟨"FeltByTwinModel", "lateBy", "(II)I"⟩, 35) := ⟨⟨by decide +kernel, by decide +kernel⟩, List.mem_of_getElem? (i := 826) (by decide +kernel), List.mem_of_getElem? (i := 1036) (by decide +kernel), List.mem_of_getElem? (i := 1037) (by decide +kernel)⟩
theorem lw_p28 : lw_okq (⟨"FeltByTwinModel", "placeIn", "(II)I"⟩, 35) := ⟨⟨by decide +kernel, by decide +kernel⟩, List.mem_of_getElem? (i := 826) (by decide +kernel), List.mem_of_getElem? (i := 1040) (by decide +kernel), List.mem_of_getElem? (i := 1041) (by decide +kernel)⟩
theorem lw_p29 : lw_okq (⟨"FeltByTwinModel", "overOf", "()I"⟩, 35) := ⟨⟨by decide +kernel, by decide +kernel⟩, List.mem_of_getElem? (i := 826) (by decide +kernel), List.mem_of_getElem? (i := 1061) (by decide +kernel), List.mem_of_getElem? (i := 1062) (by decide +kernel)⟩
theorem lw_p30 : lw_okq (⟨"FeltByTwinModel", "isOver", "(I)Z"⟩, 35) := ⟨⟨by decide +kernel, by decide +kernel⟩, List.mem_of_getElem? (i := 826) (by decide +kernel), List.mem_of_getElem? (i := 1065) (by decide +kernel), List.mem_of_getElem? (i := 1066) (by decide +kernel)⟩
theorem lw_p31 : lw_okq (⟨"FeltByTwinModel", "layWays", "(I)V"⟩, 35) := ⟨⟨by decide +kernel, by decide +kernel⟩, List.mem_of_getElem? (i := 826) (by decide +kernel), List.mem_of_getElem? (i := 1073) (by decide +kernel), List.mem_of_getElem? (i := 1074) (by decide +kernel)⟩
def lw_privs_2 : List (MethodName × Nat) := [(⟨"FeltByTwin", "mixNews", "(J)J"⟩, 12), (⟨"FeltByTwin", "mixBook", "(J)J"⟩, 12), (⟨"FeltByTwin", "mixCrowd", "(J)J"⟩, 12), (⟨"FeltByTwin", "mixPage", "(J)J"⟩, 12), (⟨"FeltByTwinModel", "faultOf", "()I"⟩, 35), (⟨"FeltByTwinModel", "go", "(I)Z"⟩, 35), (⟨"FeltByTwinModel", "goPerson", "(I)Z"⟩, 35), (⟨"FeltByTwinModel", "isBirth", "()Z"⟩, 35), (⟨"FeltByTwinModel", "tellPerson", "(II)I"⟩, 35), (⟨"FeltByTwinModel", "touchedBy", "(II)I"⟩, 35), (⟨"FeltByTwinModel", "feltOf", "(IIII)I"⟩, 35), (⟨"FeltByTwinModel", "lateBy", "(II)I"⟩, 35), (⟨"FeltByTwinModel", "placeIn", "(II)I"⟩, 35), (⟨"FeltByTwinModel", "overOf", "()I"⟩, 35), (⟨"FeltByTwinModel", "isOver", "(I)Z"⟩, 35), (⟨"FeltByTwinModel", "layWays", "(I)V"⟩, 35)]
theorem lw_r2 : ∀ q ∈ lw_privs_2, lw_okq q := List.forall_mem_cons.mpr ⟨lw_p16, List.forall_mem_cons.mpr ⟨lw_p17, List.forall_mem_cons.mpr ⟨lw_p18, List.forall_mem_cons.mpr ⟨lw_p19, List.forall_mem_cons.mpr ⟨lw_p20, List.forall_mem_cons.mpr ⟨lw_p21, List.forall_mem_cons.mpr ⟨lw_p22, List.forall_mem_cons.mpr ⟨lw_p23, List.forall_mem_cons.mpr ⟨lw_p24, List.forall_mem_cons.mpr ⟨lw_p25, List.forall_mem_cons.mpr ⟨lw_p26, List.forall_mem_cons.mpr ⟨lw_p27, List.forall_mem_cons.mpr ⟨lw_p28, List.forall_mem_cons.mpr ⟨lw_p29, List.forall_mem_cons.mpr ⟨lw_p30, List.forall_mem_cons.mpr ⟨lw_p31, fun _ h => absurd h List.not_mem_nil⟩⟩⟩⟩⟩⟩⟩⟩⟩⟩⟩⟩⟩⟩⟩⟩
theorem lw_p32 : lw_okq (⟨"FeltByTwinModel", "layTouch", "(II)V"⟩, 35) := ⟨⟨by decide +kernel, by decide +kernel⟩, List.mem_of_getElem? (i := 826) (by decide +kernel), List.mem_of_getElem? (i := 1078) (by decide +kernel), List.mem_of_getElem? (i := 1079) (by decide +kernel)⟩
theorem lw_p33 : lw_okq (⟨"FeltByTwinModel", "mayCome", "(III)V"⟩, 35) := ⟨⟨by decide +kernel, by decide +kernel⟩, List.mem_of_getElem? (i := 826) (by decide +kernel), List.mem_of_getElem? (i := 1082) (by decide +kernel), List.mem_of_getElem? (i := 1083) (by decide +kernel)⟩
theorem lw_p34 : lw_okq (⟨"FeltByTwinModel", "closeWays", "()V"⟩, 35) := ⟨⟨by decide +kernel, by decide +kernel⟩, List.mem_of_getElem? (i := 826) (by decide +kernel), List.mem_of_getElem? (i := 1086) (by decide +kernel), List.mem_of_getElem? (i := 1087) (by decide +kernel)⟩
theorem lw_p35 : lw_okq (⟨"FeltByTwinModel", "soonestNow", "(II)I"⟩, 35) := ⟨⟨by decide +kernel, by decide +kernel⟩, List.mem_of_getElem? (i := 826) (by decide +kernel), List.mem_of_getElem? (i := 1090) (by decide +kernel), List.mem_of_getElem? (i := 1091) (by decide +kernel)⟩
theorem lw_p36 : lw_okq (⟨"FeltByTwinModel", "isSoon", "(III)Z"⟩, 35) := ⟨⟨by decide +kernel, by decide +kernel⟩, List.mem_of_getElem? (i := 826) (by decide +kernel), List.mem_of_getElem? (i := 1104) (by decide +kernel), List.mem_of_getElem? (i := 1105) (by decide +kernel)⟩
theorem lw_p37 : lw_okq (⟨"FeltByTwinModel", "pairingsOf", "()I"⟩, 35) := ⟨⟨by decide +kernel, by decide +kernel⟩, List.mem_of_getElem? (i := 826) (by decide +kernel), List.mem_of_getElem? (i := 1158) (by decide +kernel), List.mem_of_getElem? (i := 1159) (by decide +kernel)⟩
theorem lw_p38 : lw_okq (⟨"FeltByTwinModel", "layPairing", "(I)V"⟩, 35) := ⟨⟨by decide +kernel, by decide +kernel⟩, List.mem_of_getElem? (i := 826) (by decide +kernel), List.mem_of_getElem? (i := 1162) (by decide +kernel), List.mem_of_getElem? (i := 1163) (by decide +kernel)⟩
theorem lw_p39 : lw_okq (⟨"FeltByTwinModel", "isSo", "()Z"⟩, 35) := ⟨⟨by decide +kernel, by decide +kernel⟩, List.mem_of_getElem? (i := 826) (by decide +kernel), List.mem_of_getElem? (i := 1166) (by decide +kernel), List.mem_of_getElem? (i := 1167) (by decide +kernel)⟩
theorem lw_p40 : lw_okq (⟨"FeltByTwinModel", "twinNow", "(I)I"⟩, 35) := ⟨⟨by decide +kernel, by decide +kernel⟩, List.mem_of_getElem? (i := 826) (by decide +kernel), List.mem_of_getElem? (i := 1174) (by decide +kernel), List.mem_of_getElem? (i := 1175) (by decide +kernel)⟩
theorem lw_p41 : lw_okq (⟨"FeltByTwinModel", "countOf", "(I)I"⟩, 35) := ⟨⟨by decide +kernel, by decide +kernel⟩, List.mem_of_getElem? (i := 826) (by decide +kernel), List.mem_of_getElem? (i := 1195) (by decide +kernel), List.mem_of_getElem? (i := 1196) (by decide +kernel)⟩
theorem lw_p42 : lw_okq (⟨"FeltByTwinModel", "roadMany", "()I"⟩, 35) := ⟨⟨by decide +kernel, by decide +kernel⟩, List.mem_of_getElem? (i := 826) (by decide +kernel), List.mem_of_getElem? (i := 1199) (by decide +kernel), List.mem_of_getElem? (i := 1200) (by decide +kernel)⟩
theorem lw_p43 : lw_okq (⟨"FeltByTwinModel", "say", "(J)V"⟩, 35) := ⟨⟨by decide +kernel, by decide +kernel⟩, List.mem_of_getElem? (i := 826) (by decide +kernel), List.mem_of_getElem? (i := 1208) (by decide +kernel), List.mem_of_getElem? (i := 1209) (by decide +kernel)⟩
theorem lw_p44 : lw_okq (⟨"FeltByTwinModel", "sayNews", "()V"⟩, 35) := ⟨⟨by decide +kernel, by decide +kernel⟩, List.mem_of_getElem? (i := 826) (by decide +kernel), List.mem_of_getElem? (i := 1213) (by decide +kernel), List.mem_of_getElem? (i := 1214) (by decide +kernel)⟩
def lw_privs_3 : List (MethodName × Nat) := [(⟨"FeltByTwinModel", "layTouch", "(II)V"⟩, 35), (⟨"FeltByTwinModel", "mayCome", "(III)V"⟩, 35), (⟨"FeltByTwinModel", "closeWays", "()V"⟩, 35), (⟨"FeltByTwinModel", "soonestNow", "(II)I"⟩, 35), (⟨"FeltByTwinModel", "isSoon", "(III)Z"⟩, 35), (⟨"FeltByTwinModel", "pairingsOf", "()I"⟩, 35), (⟨"FeltByTwinModel", "layPairing", "(I)V"⟩, 35), (⟨"FeltByTwinModel", "isSo", "()Z"⟩, 35), (⟨"FeltByTwinModel", "twinNow", "(I)I"⟩, 35), (⟨"FeltByTwinModel", "countOf", "(I)I"⟩, 35), (⟨"FeltByTwinModel", "roadMany", "()I"⟩, 35), (⟨"FeltByTwinModel", "say", "(J)V"⟩, 35), (⟨"FeltByTwinModel", "sayNews", "()V"⟩, 35)]
theorem lw_r3 : ∀ q ∈ lw_privs_3, lw_okq q := List.forall_mem_cons.mpr ⟨lw_p32, List.forall_mem_cons.mpr ⟨lw_p33, List.forall_mem_cons.mpr ⟨lw_p34, List.forall_mem_cons.mpr ⟨lw_p35, List.forall_mem_cons.mpr ⟨lw_p36, List.forall_mem_cons.mpr ⟨lw_p37, List.forall_mem_cons.mpr ⟨lw_p38, List.forall_mem_cons.mpr ⟨lw_p39, List.forall_mem_cons.mpr ⟨lw_p40, List.forall_mem_cons.mpr ⟨lw_p41, List.forall_mem_cons.mpr ⟨lw_p42, List.forall_mem_cons.mpr ⟨lw_p43, List.forall_mem_cons.mpr ⟨lw_p44, fun _ h => absurd h List.not_mem_nil⟩⟩⟩⟩⟩⟩⟩⟩⟩⟩⟩⟩⟩
def lw_privs : List (MethodName × Nat) := lw_privs_1 ++ (lw_privs_2 ++ (lw_privs_3))
def lw_tbl : List Cond := k2_sels lw_privs ++ tables_1
theorem lw_privs_ok : ∀ q ∈ lw_privs, lw_okq q := by
  show ∀ q ∈ lw_privs_1 ++ (lw_privs_2 ++ (lw_privs_3)), lw_okq q
  exact List.forall_mem_append.mpr ⟨lw_r1, List.forall_mem_append.mpr ⟨lw_r2, lw_r3⟩⟩
/-! ===== BEGIN words of one list among another's, by their places ===== -/
theorem goodIn_r {big : List Cond} (ws : List Cond) (ps : List Nat) (hp : ws = ps.filterMap (fun i => big[i]?)) (h : ws.all goodWord = true) : GoodIn big ws := by
  intro w hw
  have h1 := List.all_eq_true.mp h w hw
  rw [hp] at hw
  obtain ⟨i, -, hi⟩ := List.mem_filterMap.mp hw
  have hm : w ∈ big := by first | exact List.mem_of_getElem? hi | exact List.getElem?_mem hi
  exact ⟨hm, good_of_word h1⟩
theorem goodIn_app {big a b : List Cond} (ha : GoodIn big a) (hb : GoodIn big b) : GoodIn big (a ++ b) := fun w h => (List.mem_append.mp h).elim (ha w) (hb w)
theorem goodIn_ca {big a b : List Cond} {c : Cond} (ha : GoodIn big (c :: a)) (hb : GoodIn big b) : GoodIn big (c :: (a ++ b)) := fun w h => (List.mem_cons.mp h).elim (fun e => ha w (List.mem_cons.mpr (Or.inl e))) (fun h => (List.mem_append.mp h).elim (fun h => ha w (List.mem_cons.mpr (Or.inr h))) (hb w))
theorem goodIn_sub {big ws : List Cond} (hm : ∀ w ∈ ws, w ∈ big) (h : ws.all goodWord = true) : GoodIn big ws := fun w hw => ⟨hm w hw, good_of_word (List.all_eq_true.mp h w hw)⟩
/-! ===== END ===== -/
def RX0 : String := "FeltByTwin$Birth"
def TX0 : u_T := fun k => match k with
  | 0 => ("FeltByTwin$Birth", "members", "[I", true)
  | 1 => ("FeltByTwin$Birth", "kind", "I", false)
  | 2 => ("FeltByTwin$Birth", "amount", "I", false)
  | _ => ("FeltByTwin$Birth", "many", "I", false)
def tyX0 : Nat → FieldType := fun k => match k with
  | 0 => .array .int
  | 1 => .int
  | 2 => .int
  | _ => .int
abbrev wsX00 : List Cond := u_ws RX0 TX0 4
theorem nmX0 : ∀ a, a < 4 → ∀ b, b < 4 → a ≠ b → (TX0 a).2.1 ≠ (TX0 b).2.1 := by decide +kernel
theorem tyX0_ok : ∀ k, k < 4 → parseFieldDescriptor (TX0 k).2.2.1 = some (tyX0 k) := by decide +kernel
abbrev cX0_init : ByteArray := prog_2_method_1_code
def yX0_init : MethodName := ⟨RX0, "<init>", "()V"⟩
abbrev cX0_begin : ByteArray := prog_2_method_2_code
def yX0_begin : MethodName := ⟨RX0, "begin", "()V"⟩
abbrev cX0_takeSign : ByteArray := prog_2_method_3_code
def yX0_takeSign : MethodName := ⟨RX0, "takeSign", "(I)Z"⟩
abbrev cX0_needsAmount : ByteArray := prog_2_method_4_code
def yX0_needsAmount : MethodName := ⟨RX0, "needsAmount", "()Z"⟩
abbrev cX0_takeAmount : ByteArray := prog_2_method_5_code
def yX0_takeAmount : MethodName := ⟨RX0, "takeAmount", "(I)Z"⟩
abbrev cX0_takePerson : ByteArray := prog_2_method_6_code
def yX0_takePerson : MethodName := ⟨RX0, "takePerson", "(I)Z"⟩
abbrev cX0_isWhole : ByteArray := prog_2_method_7_code
def yX0_isWhole : MethodName := ⟨RX0, "isWhole", "()Z"⟩
abbrev cX0_isA : ByteArray := prog_2_method_8_code
def yX0_isA : MethodName := ⟨RX0, "isA", "(I)Z"⟩
abbrev cX0_size : ByteArray := prog_2_method_9_code
def yX0_size : MethodName := ⟨RX0, "size", "()I"⟩
abbrev cX0_tenths : ByteArray := prog_2_method_10_code
def yX0_tenths : MethodName := ⟨RX0, "tenths", "()I"⟩
abbrev cX0_fact : ByteArray := prog_2_method_11_code
def yX0_fact : MethodName := ⟨RX0, "fact", "(I)I"⟩
abbrev cX0_member : ByteArray := prog_2_method_12_code
def yX0_member : MethodName := ⟨RX0, "member", "(I)I"⟩
abbrev cX0_placeOf : ByteArray := prog_2_method_13_code
def yX0_placeOf : MethodName := ⟨RX0, "placeOf", "(I)I"⟩
abbrev cX0_hasAnyOf : ByteArray := prog_2_method_14_code
def yX0_hasAnyOf : MethodName := ⟨RX0, "hasAnyOf", "(I)Z"⟩
abbrev cX0_delay : ByteArray := prog_2_method_15_code
def yX0_delay : MethodName := ⟨RX0, "delay", "(II)I"⟩
def RX1 : String := "FeltByTwin$Book"
def TX1 : u_T := fun k => match k with
  | 0 => ("FeltByTwin$Book", "words", "[I", true)
  | _ => ("FeltByTwin$Book", "many", "I", false)
def tyX1 : Nat → FieldType := fun k => match k with
  | 0 => .array .int
  | _ => .int
abbrev wsX10 : List Cond := u_ws RX1 TX1 2
theorem nmX1 : ∀ a, a < 2 → ∀ b, b < 2 → a ≠ b → (TX1 a).2.1 ≠ (TX1 b).2.1 := by decide +kernel
theorem tyX1_ok : ∀ k, k < 2 → parseFieldDescriptor (TX1 k).2.2.1 = some (tyX1 k) := by decide +kernel
abbrev cX1_init : ByteArray := prog_3_method_1_code
def yX1_init : MethodName := ⟨RX1, "<init>", "()V"⟩
abbrev cX1_size : ByteArray := prog_3_method_2_code
def yX1_size : MethodName := ⟨RX1, "size", "()I"⟩
abbrev cX1_at : ByteArray := prog_3_method_3_code
def yX1_at : MethodName := ⟨RX1, "at", "(I)I"⟩
abbrev cX1_add : ByteArray := prog_3_method_4_code
def yX1_add : MethodName := ⟨RX1, "add", "(I)I"⟩
abbrev cX1_copyFrom : ByteArray := prog_3_method_5_code
def yX1_copyFrom : MethodName := ⟨RX1, "copyFrom", "(LFeltByTwin$Book;)V"⟩
abbrev cX1_weight : ByteArray := prog_3_method_6_code
def yX1_weight : MethodName := ⟨RX1, "weight", "(III)J"⟩
abbrev cX1_weightOfAll : ByteArray := prog_3_method_7_code
def yX1_weightOfAll : MethodName := ⟨RX1, "weightOfAll", "(II)J"⟩
def RX2 : String := "FeltByTwin$Crowd"
def TX2 : u_T := fun k => match k with
  | 0 => ("FeltByTwin$Crowd", "touched", "[I", true)
  | 1 => ("FeltByTwin$Crowd", "sets", "[I", true)
  | 2 => ("FeltByTwin$Crowd", "allowed", "[I", true)
  | 3 => ("FeltByTwin$Crowd", "twins", "[I", true)
  | 4 => ("FeltByTwin$Crowd", "size", "I", false)
  | _ => ("FeltByTwin$Crowd", "many", "I", false)
def tyX2 : Nat → FieldType := fun k => match k with
  | 0 => .array .int
  | 1 => .array .int
  | 2 => .array .int
  | 3 => .array .int
  | 4 => .int
  | _ => .int
abbrev wsX20 : List Cond := u_ws RX2 TX2 6
theorem nmX2 : ∀ a, a < 6 → ∀ b, b < 6 → a ≠ b → (TX2 a).2.1 ≠ (TX2 b).2.1 := by decide +kernel
theorem tyX2_ok : ∀ k, k < 6 → parseFieldDescriptor (TX2 k).2.2.1 = some (tyX2 k) := by decide +kernel
abbrev cX2_init : ByteArray := prog_4_method_1_code
def yX2_init : MethodName := ⟨RX2, "<init>", "()V"⟩
abbrev cX2_size : ByteArray := prog_4_method_2_code
def yX2_size : MethodName := ⟨RX2, "size", "()I"⟩
abbrev cX2_winces : ByteArray := prog_4_method_3_code
def yX2_winces : MethodName := ⟨RX2, "winces", "()I"⟩
abbrev cX2_gather : ByteArray := prog_4_method_4_code
def yX2_gather : MethodName := ⟨RX2, "gather", "(I)V"⟩
abbrev cX2_add : ByteArray := prog_4_method_5_code
def yX2_add : MethodName := ⟨RX2, "add", "(II)I"⟩
abbrev cX2_copyFrom : ByteArray := prog_4_method_6_code
def yX2_copyFrom : MethodName := ⟨RX2, "copyFrom", "(LFeltByTwin$Crowd;)V"⟩
abbrev cX2_survey : ByteArray := prog_4_method_7_code
def yX2_survey : MethodName := ⟨RX2, "survey", "()I"⟩
abbrev cX2_onlyTwin : ByteArray := prog_4_method_8_code
def yX2_onlyTwin : MethodName := ⟨RX2, "onlyTwin", "(I)I"⟩
abbrev cX2_pairUp : ByteArray := prog_4_method_9_code
def yX2_pairUp : MethodName := ⟨RX2, "pairUp", "(II)I"⟩
abbrev cX2_mayBeTwins : ByteArray := prog_4_method_10_code
def yX2_mayBeTwins : MethodName := ⟨RX2, "mayBeTwins", "(II)Z"⟩
abbrev cX2_firstOf : ByteArray := prog_4_method_11_code
def yX2_firstOf : MethodName := ⟨RX2, "firstOf", "(I)I"⟩
def RX3 : String := "FeltByTwin$Image"
def TX3 : u_T := fun k => match k with
  | 0 => ("FeltByTwin$Image", "touches", "LFeltByTwin$Touches;", true)
  | 1 => ("FeltByTwin$Image", "towns", "[I", true)
  | 2 => ("FeltByTwin$Image", "book", "LFeltByTwin$Book;", true)
  | 3 => ("FeltByTwin$Image", "crowd", "LFeltByTwin$Crowd;", true)
  | _ => ("FeltByTwin$Image", "isGood", "Z", false)
def tyX3 : Nat → FieldType := fun k => match k with
  | 0 => .object "FeltByTwin$Touches"
  | 1 => .array .int
  | 2 => .object "FeltByTwin$Book"
  | 3 => .object "FeltByTwin$Crowd"
  | _ => .boolean
abbrev wsX30 : List Cond := u_ws RX3 TX3 5
theorem nmX3 : ∀ a, a < 5 → ∀ b, b < 5 → a ≠ b → (TX3 a).2.1 ≠ (TX3 b).2.1 := by decide +kernel
theorem tyX3_ok : ∀ k, k < 5 → parseFieldDescriptor (TX3 k).2.2.1 = some (tyX3 k) := by decide +kernel
abbrev cX3_init : ByteArray := prog_5_method_1_code
def yX3_init : MethodName := ⟨RX3, "<init>", "()V"⟩
abbrev cX3_isGood : ByteArray := prog_5_method_2_code
def yX3_isGood : MethodName := ⟨RX3, "isGood", "()Z"⟩
abbrev cX3_spoil : ByteArray := prog_5_method_3_code
def yX3_spoil : MethodName := ⟨RX3, "spoil", "()V"⟩
abbrev cX3_keep : ByteArray := prog_5_method_4_code
def yX3_keep : MethodName := ⟨RX3, "keep", "(LFeltByTwin$Touches;[ILFeltByTwin$Book;LFeltByTwin$Crowd;)V"⟩
abbrev cX3_giveBack : ByteArray := prog_5_method_5_code
def yX3_giveBack : MethodName := ⟨RX3, "giveBack", "(LFeltByTwin$Touches;[ILFeltByTwin$Book;LFeltByTwin$Crowd;)V"⟩
def RX4 : String := "FeltByTwin$News"
def TX4 : u_T := fun k => match k with
  | 0 => ("FeltByTwin$News", "roadMinutes", "[I", true)
  | 1 => ("FeltByTwin$News", "ways", "LFeltByTwin$Ways;", true)
  | 2 => ("FeltByTwin$News", "withOne", "LFeltByTwin$Ways;", true)
  | _ => ("FeltByTwin$News", "pairTowns", "[I", true)
def tyX4 : Nat → FieldType := fun k => match k with
  | 0 => .array .int
  | 1 => .object "FeltByTwin$Ways"
  | 2 => .object "FeltByTwin$Ways"
  | _ => .array .int
abbrev wsX40 : List Cond := u_ws RX4 TX4 4
theorem nmX4 : ∀ a, a < 4 → ∀ b, b < 4 → a ≠ b → (TX4 a).2.1 ≠ (TX4 b).2.1 := by decide +kernel
theorem tyX4_ok : ∀ k, k < 4 → parseFieldDescriptor (TX4 k).2.2.1 = some (tyX4 k) := by decide +kernel
abbrev cX4_init : ByteArray := prog_6_method_1_code
def yX4_init : MethodName := ⟨RX4, "<init>", "()V"⟩
abbrev cX4_setRoad : ByteArray := prog_6_method_2_code
def yX4_setRoad : MethodName := ⟨RX4, "setRoad", "(III)I"⟩
abbrev cX4_roads : ByteArray := prog_6_method_3_code
def yX4_roads : MethodName := ⟨RX4, "roads", "()I"⟩
abbrev cX4_reckon : ByteArray := prog_6_method_4_code
def yX4_reckon : MethodName := ⟨RX4, "reckon", "(LFeltByTwin$Register;[II)V"⟩
abbrev cX4_addPinches : ByteArray := prog_6_method_5_code
def yX4_addPinches : MethodName := ⟨RX4, "addPinches", "(LFeltByTwin$Birth;[I)V"⟩
abbrev cX4_minutesBetween : ByteArray := prog_6_method_6_code
def yX4_minutesBetween : MethodName := ⟨RX4, "minutesBetween", "(II)I"⟩
abbrev cX4_townOfPairs : ByteArray := prog_6_method_7_code
def yX4_townOfPairs : MethodName := ⟨RX4, "townOfPairs", "(I)I"⟩
abbrev cX4_fewestPairs : ByteArray := prog_6_method_8_code
def yX4_fewestPairs : MethodName := ⟨RX4, "fewestPairs", "(I)I"⟩
abbrev cX4_isWithinByOne : ByteArray := prog_6_method_9_code
def yX4_isWithinByOne : MethodName := ⟨RX4, "isWithinByOne", "(I)Z"⟩
abbrev cX4_isWithinByTwo : ByteArray := prog_6_method_10_code
def yX4_isWithinByTwo : MethodName := ⟨RX4, "isWithinByTwo", "(I)Z"⟩
abbrev cX4_notePair : ByteArray := prog_6_method_11_code
def yX4_notePair : MethodName := ⟨RX4, "notePair", "(II)V"⟩
def RX5 : String := "FeltByTwin$Page"
def TX5 : u_T := fun k => match k with
  | 0 => ("FeltByTwin$Page", "codes", "[I", true)
  | _ => ("FeltByTwin$Page", "many", "I", false)
def tyX5 : Nat → FieldType := fun k => match k with
  | 0 => .array .int
  | _ => .int
abbrev wsX50 : List Cond := u_ws RX5 TX5 2
theorem nmX5 : ∀ a, a < 2 → ∀ b, b < 2 → a ≠ b → (TX5 a).2.1 ≠ (TX5 b).2.1 := by decide +kernel
theorem tyX5_ok : ∀ k, k < 2 → parseFieldDescriptor (TX5 k).2.2.1 = some (tyX5 k) := by decide +kernel
abbrev cX5_init : ByteArray := prog_7_method_1_code
def yX5_init : MethodName := ⟨RX5, "<init>", "()V"⟩
abbrev cX5_size : ByteArray := prog_7_method_2_code
def yX5_size : MethodName := ⟨RX5, "size", "()I"⟩
abbrev cX5_at : ByteArray := prog_7_method_3_code
def yX5_at : MethodName := ⟨RX5, "at", "(I)I"⟩
abbrev cX5_clear : ByteArray := prog_7_method_4_code
def yX5_clear : MethodName := ⟨RX5, "clear", "()V"⟩
abbrev cX5_write : ByteArray := prog_7_method_5_code
def yX5_write : MethodName := ⟨RX5, "write", "(J)I"⟩
abbrev cX5_lettersIn : ByteArray := prog_7_method_6_code
def yX5_lettersIn : MethodName := ⟨RX5, "lettersIn", "(J)I"⟩
abbrev cX5_byteOf : ByteArray := prog_7_method_7_code
def yX5_byteOf : MethodName := ⟨RX5, "byteOf", "(JI)I"⟩
def RX6 : String := "FeltByTwin$Register"
def TX6 : u_T := fun k => match k with
  | 0 => ("FeltByTwin$Register", "births", "[LFeltByTwin$Birth;", true)
  | 1 => ("FeltByTwin$Register", "birthOf", "[I", true)
  | _ => ("FeltByTwin$Register", "many", "I", false)
def tyX6 : Nat → FieldType := fun k => match k with
  | 0 => .array (.object "FeltByTwin$Birth")
  | 1 => .array .int
  | _ => .int
abbrev wsX60 : List Cond := u_ws RX6 TX6 3
theorem nmX6 : ∀ a, a < 3 → ∀ b, b < 3 → a ≠ b → (TX6 a).2.1 ≠ (TX6 b).2.1 := by decide +kernel
theorem tyX6_ok : ∀ k, k < 3 → parseFieldDescriptor (TX6 k).2.2.1 = some (tyX6 k) := by decide +kernel
abbrev cX6_init : ByteArray := prog_8_method_1_code
def yX6_init : MethodName := ⟨RX6, "<init>", "()V"⟩
abbrev cX6_readFrom : ByteArray := prog_8_method_2_code
def yX6_readFrom : MethodName := ⟨RX6, "readFrom", "(LFeltByTwin$Page;)I"⟩
abbrev cX6_isWhole : ByteArray := prog_8_method_3_code
def yX6_isWhole : MethodName := ⟨RX6, "isWhole", "()Z"⟩
abbrev cX6_size : ByteArray := prog_8_method_4_code
def yX6_size : MethodName := ⟨RX6, "size", "()I"⟩
abbrev cX6_find : ByteArray := prog_8_method_5_code
def yX6_find : MethodName := ⟨RX6, "find", "(I)LFeltByTwin$Birth;"⟩
abbrev cX6_birthOf : ByteArray := prog_8_method_6_code
def yX6_birthOf : MethodName := ⟨RX6, "birthOf", "(I)I"⟩
abbrev cX6_tenthsOf : ByteArray := prog_8_method_7_code
def yX6_tenthsOf : MethodName := ⟨RX6, "tenthsOf", "(I)I"⟩
abbrev cX6_delay : ByteArray := prog_8_method_8_code
def yX6_delay : MethodName := ⟨RX6, "delay", "(II)I"⟩
abbrev cX6_beginBirth : ByteArray := prog_8_method_9_code
def yX6_beginBirth : MethodName := ⟨RX6, "beginBirth", "()Z"⟩
abbrev cX6_take : ByteArray := prog_8_method_10_code
def yX6_take : MethodName := ⟨RX6, "take", "(I)Z"⟩
abbrev cX6_takeDigit : ByteArray := prog_8_method_11_code
def yX6_takeDigit : MethodName := ⟨RX6, "takeDigit", "(LFeltByTwin$Birth;I)Z"⟩
def RX7 : String := "FeltByTwin$Rows"
def TX7 : u_T := fun k => match k with
  | 0 => ("FeltByTwin$Rows", "alike", "[I", true)
  | 1 => ("FeltByTwin$Rows", "bestMany", "I", false)
  | _ => ("FeltByTwin$Rows", "bestSet", "I", false)
def tyX7 : Nat → FieldType := fun k => match k with
  | 0 => .array .int
  | 1 => .int
  | _ => .int
abbrev wsX70 : List Cond := u_ws RX7 TX7 3
theorem nmX7 : ∀ a, a < 3 → ∀ b, b < 3 → a ≠ b → (TX7 a).2.1 ≠ (TX7 b).2.1 := by decide +kernel
theorem tyX7_ok : ∀ k, k < 3 → parseFieldDescriptor (TX7 k).2.2.1 = some (tyX7 k) := by decide +kernel
abbrev cX7_init : ByteArray := prog_9_method_1_code
def yX7_init : MethodName := ⟨RX7, "<init>", "()V"⟩
abbrev cX7_most : ByteArray := prog_9_method_2_code
def yX7_most : MethodName := ⟨RX7, "most", "()I"⟩
abbrev cX7_firstSet : ByteArray := prog_9_method_3_code
def yX7_firstSet : MethodName := ⟨RX7, "firstSet", "()I"⟩
abbrev cX7_search : ByteArray := prog_9_method_4_code
def yX7_search : MethodName := ⟨RX7, "search", "(II)V"⟩
abbrev cX7_rowsLike : ByteArray := prog_9_method_5_code
def yX7_rowsLike : MethodName := ⟨RX7, "rowsLike", "(III)I"⟩
abbrev cX7_choose : ByteArray := prog_9_method_6_code
def yX7_choose : MethodName := ⟨RX7, "choose", "(IIII)V"⟩
def RX8 : String := "FeltByTwin$Touches"
def TX8 : u_T := fun k => match k with
  | 0 => ("FeltByTwin$Touches", "who", "[I", true)
  | 1 => ("FeltByTwin$Touches", "when", "[I", true)
  | 2 => ("FeltByTwin$Touches", "tally", "[I", true)
  | _ => ("FeltByTwin$Touches", "many", "I", false)
def tyX8 : Nat → FieldType := fun k => match k with
  | 0 => .array .int
  | 1 => .array .int
  | 2 => .array .int
  | _ => .int
abbrev wsX80 : List Cond := u_ws RX8 TX8 4
theorem nmX8 : ∀ a, a < 4 → ∀ b, b < 4 → a ≠ b → (TX8 a).2.1 ≠ (TX8 b).2.1 := by decide +kernel
theorem tyX8_ok : ∀ k, k < 4 → parseFieldDescriptor (TX8 k).2.2.1 = some (tyX8 k) := by decide +kernel
abbrev cX8_init : ByteArray := prog_10_method_1_code
def yX8_init : MethodName := ⟨RX8, "<init>", "()V"⟩
abbrev cX8_size : ByteArray := prog_10_method_2_code
def yX8_size : MethodName := ⟨RX8, "size", "()I"⟩
abbrev cX8_clear : ByteArray := prog_10_method_3_code
def yX8_clear : MethodName := ⟨RX8, "clear", "()V"⟩
abbrev cX8_add : ByteArray := prog_10_method_4_code
def yX8_add : MethodName := ⟨RX8, "add", "(II)I"⟩
abbrev cX8_copyFrom : ByteArray := prog_10_method_5_code
def yX8_copyFrom : MethodName := ⟨RX8, "copyFrom", "(LFeltByTwin$Touches;)V"⟩
abbrev cX8_ofPerson : ByteArray := prog_10_method_6_code
def yX8_ofPerson : MethodName := ⟨RX8, "ofPerson", "(I)I"⟩
abbrev cX8_timesFelt : ByteArray := prog_10_method_7_code
def yX8_timesFelt : MethodName := ⟨RX8, "timesFelt", "(LFeltByTwin$Register;III)I"⟩
abbrev cX8_firstOver : ByteArray := prog_10_method_8_code
def yX8_firstOver : MethodName := ⟨RX8, "firstOver", "(LFeltByTwin$Register;)I"⟩
abbrev cX8_isOverBehind : ByteArray := prog_10_method_9_code
def yX8_isOverBehind : MethodName := ⟨RX8, "isOverBehind", "(LFeltByTwin$Register;II)Z"⟩
abbrev cX8_talliedFor : ByteArray := prog_10_method_10_code
def yX8_talliedFor : MethodName := ⟨RX8, "talliedFor", "(II)I"⟩
def RX9 : String := "FeltByTwin$Ways"
def TX9 : u_T := fun k => match k with
  | _ => ("FeltByTwin$Ways", "minutes", "[I", true)
def tyX9 : Nat → FieldType := fun k => match k with
  | _ => .array .int
abbrev wsX90 : List Cond := u_ws RX9 TX9 1
theorem nmX9 : ∀ a, a < 1 → ∀ b, b < 1 → a ≠ b → (TX9 a).2.1 ≠ (TX9 b).2.1 := by decide +kernel
theorem tyX9_ok : ∀ k, k < 1 → parseFieldDescriptor (TX9 k).2.2.1 = some (tyX9 k) := by decide +kernel
abbrev cX9_init : ByteArray := prog_11_method_1_code
def yX9_init : MethodName := ⟨RX9, "<init>", "()V"⟩
abbrev cX9_between : ByteArray := prog_11_method_2_code
def yX9_between : MethodName := ⟨RX9, "between", "(II)I"⟩
abbrev cX9_clear : ByteArray := prog_11_method_3_code
def yX9_clear : MethodName := ⟨RX9, "clear", "()V"⟩
abbrev cX9_shorten : ByteArray := prog_11_method_4_code
def yX9_shorten : MethodName := ⟨RX9, "shorten", "(III)V"⟩
abbrev cX9_joinWays : ByteArray := prog_11_method_5_code
def yX9_joinWays : MethodName := ⟨RX9, "joinWays", "()V"⟩
abbrev cX9_joinThrough : ByteArray := prog_11_method_6_code
def yX9_joinThrough : MethodName := ⟨RX9, "joinThrough", "(II)V"⟩
abbrev cX9_takeWithBond : ByteArray := prog_11_method_7_code
def yX9_takeWithBond : MethodName := ⟨RX9, "takeWithBond", "(LFeltByTwin$Ways;II)V"⟩
abbrev cX9_areWithin : ByteArray := prog_11_method_8_code
def yX9_areWithin : MethodName := ⟨RX9, "areWithin", "(I)Z"⟩
abbrev cX9_areWithinWithBond : ByteArray := prog_11_method_9_code
def yX9_areWithinWithBond : MethodName := ⟨RX9, "areWithinWithBond", "(III)Z"⟩
abbrev cX9_betweenWithBond : ByteArray := prog_11_method_10_code
def yX9_betweenWithBond : MethodName := ⟨RX9, "betweenWithBond", "(IIII)I"⟩
def RX10 : String := "FeltByTwin"
def TX10 : u_T := fun k => match k with
  | 0 => ("FeltByTwin", "page", "LFeltByTwin$Page;", true)
  | 1 => ("FeltByTwin", "touches", "LFeltByTwin$Touches;", true)
  | 2 => ("FeltByTwin", "news", "LFeltByTwin$News;", true)
  | 3 => ("FeltByTwin", "book", "LFeltByTwin$Book;", true)
  | 4 => ("FeltByTwin", "crowd", "LFeltByTwin$Crowd;", true)
  | 5 => ("FeltByTwin", "rows", "LFeltByTwin$Rows;", true)
  | 6 => ("FeltByTwin", "image", "LFeltByTwin$Image;", true)
  | 7 => ("FeltByTwin", "towns", "[I", true)
  | 8 => ("FeltByTwin", "register", "LFeltByTwin$Register;", false)
  | 9 => ("FeltByTwin", "draft", "LFeltByTwin$Register;", false)
  | 10 => ("FeltByTwin", "timesRead", "I", false)
  | _ => ("FeltByTwin", "timesKept", "I", false)
def tyX10 : Nat → FieldType := fun k => match k with
  | 0 => .object "FeltByTwin$Page"
  | 1 => .object "FeltByTwin$Touches"
  | 2 => .object "FeltByTwin$News"
  | 3 => .object "FeltByTwin$Book"
  | 4 => .object "FeltByTwin$Crowd"
  | 5 => .object "FeltByTwin$Rows"
  | 6 => .object "FeltByTwin$Image"
  | 7 => .array .int
  | 8 => .object "FeltByTwin$Register"
  | 9 => .object "FeltByTwin$Register"
  | 10 => .int
  | _ => .int
abbrev wsX100 : List Cond := u_ws RX10 TX10 12
theorem nmX10 : ∀ a, a < 12 → ∀ b, b < 12 → a ≠ b → (TX10 a).2.1 ≠ (TX10 b).2.1 := by decide +kernel
theorem tyX10_ok : ∀ k, k < 12 → parseFieldDescriptor (TX10 k).2.2.1 = some (tyX10 k) := by decide +kernel
abbrev cX10_init : ByteArray := prog_1_method_1_code
def yX10_init : MethodName := ⟨RX10, "<init>", "()V"⟩
abbrev cX10_road : ByteArray := prog_1_method_2_code
def yX10_road : MethodName := ⟨RX10, "road", "(III)I"⟩
abbrev cX10_town : ByteArray := prog_1_method_3_code
def yX10_town : MethodName := ⟨RX10, "town", "(II)I"⟩
abbrev cX10_letters : ByteArray := prog_1_method_4_code
def yX10_letters : MethodName := ⟨RX10, "letters", "(J)I"⟩
abbrev cX10_blank : ByteArray := prog_1_method_5_code
def yX10_blank : MethodName := ⟨RX10, "blank", "()I"⟩
abbrev cX10_fault : ByteArray := prog_1_method_6_code
def yX10_fault : MethodName := ⟨RX10, "fault", "()I"⟩
abbrev cX10_births : ByteArray := prog_1_method_7_code
def yX10_births : MethodName := ⟨RX10, "births", "()I"⟩
abbrev cX10_birth : ByteArray := prog_1_method_8_code
def yX10_birth : MethodName := ⟨RX10, "birth", "(II)I"⟩
abbrev cX10_as : ByteArray := prog_1_method_9_code
def yX10_as : MethodName := ⟨RX10, "as", "(II)I"⟩
abbrev cX10_about : ByteArray := prog_1_method_10_code
def yX10_about : MethodName := ⟨RX10, "about", "(II)I"⟩
abbrev cX10_touch : ByteArray := prog_1_method_11_code
def yX10_touch : MethodName := ⟨RX10, "touch", "(II)I"⟩
abbrev cX10_forget : ByteArray := prog_1_method_12_code
def yX10_forget : MethodName := ⟨RX10, "forget", "()I"⟩
abbrev cX10_felt : ByteArray := prog_1_method_13_code
def yX10_felt : MethodName := ⟨RX10, "felt", "(III)I"⟩
abbrev cX10_surely : ByteArray := prog_1_method_14_code
def yX10_surely : MethodName := ⟨RX10, "surely", "(IIII)J"⟩
abbrev cX10_over : ByteArray := prog_1_method_15_code
def yX10_over : MethodName := ⟨RX10, "over", "()I"⟩
abbrev cX10_soonest : ByteArray := prog_1_method_16_code
def yX10_soonest : MethodName := ⟨RX10, "soonest", "(II)I"⟩
abbrev cX10_unseen : ByteArray := prog_1_method_17_code
def yX10_unseen : MethodName := ⟨RX10, "unseen", "(III)I"⟩
abbrev cX10_kept : ByteArray := prog_1_method_18_code
def yX10_kept : MethodName := ⟨RX10, "kept", "(II)I"⟩
abbrev cX10_words : ByteArray := prog_1_method_19_code
def yX10_words : MethodName := ⟨RX10, "words", "(III)I"⟩
abbrev cX10_least : ByteArray := prog_1_method_20_code
def yX10_least : MethodName := ⟨RX10, "least", "(III)I"⟩
abbrev cX10_missed : ByteArray := prog_1_method_21_code
def yX10_missed : MethodName := ⟨RX10, "missed", "(III)I"⟩
abbrev cX10_book : ByteArray := prog_1_method_22_code
def yX10_book : MethodName := ⟨RX10, "book", "(I)I"⟩
abbrev cX10_read : ByteArray := prog_1_method_23_code
def yX10_read : MethodName := ⟨RX10, "read", "(IIII)J"⟩
abbrev cX10_crowd : ByteArray := prog_1_method_24_code
def yX10_crowd : MethodName := ⟨RX10, "crowd", "(I)I"⟩
abbrev cX10_wince : ByteArray := prog_1_method_25_code
def yX10_wince : MethodName := ⟨RX10, "wince", "(II)I"⟩
abbrev cX10_pairings : ByteArray := prog_1_method_26_code
def yX10_pairings : MethodName := ⟨RX10, "pairings", "()I"⟩
abbrev cX10_twin : ByteArray := prog_1_method_27_code
def yX10_twin : MethodName := ⟨RX10, "twin", "(I)I"⟩
abbrev cX10_round : ByteArray := prog_1_method_28_code
def yX10_round : MethodName := ⟨RX10, "round", "(III)J"⟩
abbrev cX10_image : ByteArray := prog_1_method_29_code
def yX10_image : MethodName := ⟨RX10, "image", "()I"⟩
abbrev cX10_restore : ByteArray := prog_1_method_30_code
def yX10_restore : MethodName := ⟨RX10, "restore", "()I"⟩
abbrev cX10_count : ByteArray := prog_1_method_31_code
def yX10_count : MethodName := ⟨RX10, "count", "(I)I"⟩
abbrev cX10_digest : ByteArray := prog_1_method_32_code
def yX10_digest : MethodName := ⟨RX10, "digest", "()J"⟩
abbrev cX10_mixBirths : ByteArray := prog_1_method_33_code
def yX10_mixBirths : MethodName := ⟨RX10, "mixBirths", "(J)J"⟩
abbrev cX10_mixPeople : ByteArray := prog_1_method_34_code
def yX10_mixPeople : MethodName := ⟨RX10, "mixPeople", "(J)J"⟩
abbrev cX10_mixNews : ByteArray := prog_1_method_35_code
def yX10_mixNews : MethodName := ⟨RX10, "mixNews", "(J)J"⟩
abbrev cX10_mixBook : ByteArray := prog_1_method_36_code
def yX10_mixBook : MethodName := ⟨RX10, "mixBook", "(J)J"⟩
abbrev cX10_mixCrowd : ByteArray := prog_1_method_37_code
def yX10_mixCrowd : MethodName := ⟨RX10, "mixCrowd", "(J)J"⟩
abbrev cX10_mixPage : ByteArray := prog_1_method_38_code
def yX10_mixPage : MethodName := ⟨RX10, "mixPage", "(J)J"⟩
abbrev cX10_mix : ByteArray := prog_1_method_39_code
def yX10_mix : MethodName := ⟨RX10, "mix", "(JJ)J"⟩
abbrev cX10_isWithin : ByteArray := prog_1_method_40_code
def yX10_isWithin : MethodName := ⟨RX10, "isWithin", "(III)Z"⟩
abbrev cX10_isPerson : ByteArray := prog_1_method_41_code
def yX10_isPerson : MethodName := ⟨RX10, "isPerson", "(I)Z"⟩
abbrev cX10_isTown : ByteArray := prog_1_method_42_code
def yX10_isTown : MethodName := ⟨RX10, "isTown", "(I)Z"⟩
abbrev cX10_isSpan : ByteArray := prog_1_method_43_code
def yX10_isSpan : MethodName := ⟨RX10, "isSpan", "(II)Z"⟩
abbrev cX10_isPart : ByteArray := prog_1_method_44_code
def yX10_isPart : MethodName := ⟨RX10, "isPart", "(I)Z"⟩
abbrev cX10_isOdds : ByteArray := prog_1_method_45_code
def yX10_isOdds : MethodName := ⟨RX10, "isOdds", "(I)Z"⟩
abbrev cX10_isSetOf : ByteArray := prog_1_method_46_code
def yX10_isSetOf : MethodName := ⟨RX10, "isSetOf", "(II)Z"⟩
abbrev cX10_arePinches : ByteArray := prog_1_method_47_code
def yX10_arePinches : MethodName := ⟨RX10, "arePinches", "(II)Z"⟩
abbrev cX10_isIn : ByteArray := prog_1_method_48_code
def yX10_isIn : MethodName := ⟨RX10, "isIn", "(II)Z"⟩
abbrev cX10_wordsOf : ByteArray := prog_1_method_49_code
def yX10_wordsOf : MethodName := ⟨RX10, "wordsOf", "(III)I"⟩
abbrev cX10_power : ByteArray := prog_1_method_50_code
def yX10_power : MethodName := ⟨RX10, "power", "(JI)J"⟩
abbrev cX10_inLowestTerms : ByteArray := prog_1_method_51_code
def yX10_inLowestTerms : MethodName := ⟨RX10, "inLowestTerms", "(JJI)J"⟩
abbrev cX10_commonDivisor : ByteArray := prog_1_method_52_code
def yX10_commonDivisor : MethodName := ⟨RX10, "commonDivisor", "(JJ)J"⟩
def RX11 : String := "FeltByTwinModel"
def TX11 : u_T := fun k => match k with
  | 0 => ("FeltByTwinModel", "roads", "[I", true)
  | 1 => ("FeltByTwinModel", "towns", "[I", true)
  | 2 => ("FeltByTwinModel", "page", "[I", true)
  | 3 => ("FeltByTwinModel", "pageMany", "I", false)
  | 4 => ("FeltByTwinModel", "readMany", "I", false)
  | 5 => ("FeltByTwinModel", "readSeen", "I", false)
  | 6 => ("FeltByTwinModel", "state", "I", false)
  | 7 => ("FeltByTwinModel", "readRows", "[I", true)
  | 8 => ("FeltByTwinModel", "births", "I", false)
  | 9 => ("FeltByTwinModel", "birthsRead", "I", false)
  | 10 => ("FeltByTwinModel", "birthRows", "[I", true)
  | 11 => ("FeltByTwinModel", "birthOf", "[I", true)
  | 12 => ("FeltByTwinModel", "touches", "I", false)
  | 13 => ("FeltByTwinModel", "touchRows", "[I", true)
  | 14 => ("FeltByTwinModel", "ways", "[I", true)
  | 15 => ("FeltByTwinModel", "done", "I", false)
  | 16 => ("FeltByTwinModel", "alike", "[I", true)
  | 17 => ("FeltByTwinModel", "bookMany", "I", false)
  | 18 => ("FeltByTwinModel", "book", "[I", true)
  | 19 => ("FeltByTwinModel", "crowdNow", "I", false)
  | 20 => ("FeltByTwinModel", "crowdsTold", "I", false)
  | 21 => ("FeltByTwinModel", "winces", "I", false)
  | 22 => ("FeltByTwinModel", "winceRows", "[I", true)
  | 23 => ("FeltByTwinModel", "twins", "[I", true)
  | 24 => ("FeltByTwinModel", "twinsIn", "[I", true)
  | 25 => ("FeltByTwinModel", "kept", "I", false)
  | 26 => ("FeltByTwinModel", "keptBirths", "I", false)
  | 27 => ("FeltByTwinModel", "keptCrowds", "I", false)
  | 28 => ("FeltByTwinModel", "keptBook", "I", false)
  | 29 => ("FeltByTwinModel", "keptWinces", "I", false)
  | 30 => ("FeltByTwinModel", "keptTouches", "[I", true)
  | 31 => ("FeltByTwinModel", "keptTowns", "[I", true)
  | 32 => ("FeltByTwinModel", "keptWords", "[I", true)
  | 33 => ("FeltByTwinModel", "keptRows", "[I", true)
  | _ => ("FeltByTwinModel", "hash", "J", false)
def tyX11 : Nat → FieldType := fun k => match k with
  | 0 => .array .int
  | 1 => .array .int
  | 2 => .array .int
  | 3 => .int
  | 4 => .int
  | 5 => .int
  | 6 => .int
  | 7 => .array .int
  | 8 => .int
  | 9 => .int
  | 10 => .array .int
  | 11 => .array .int
  | 12 => .int
  | 13 => .array .int
  | 14 => .array .int
  | 15 => .int
  | 16 => .array .int
  | 17 => .int
  | 18 => .array .int
  | 19 => .int
  | 20 => .int
  | 21 => .int
  | 22 => .array .int
  | 23 => .array .int
  | 24 => .array .int
  | 25 => .int
  | 26 => .int
  | 27 => .int
  | 28 => .int
  | 29 => .int
  | 30 => .array .int
  | 31 => .array .int
  | 32 => .array .int
  | 33 => .array .int
  | _ => .long
abbrev wsX110 : List Cond := u_ws RX11 TX11 35
theorem nmX11 : ∀ a, a < 35 → ∀ b, b < 35 → a ≠ b → (TX11 a).2.1 ≠ (TX11 b).2.1 := by decide +kernel
theorem tyX11_ok : ∀ k, k < 35 → parseFieldDescriptor (TX11 k).2.2.1 = some (tyX11 k) := by decide +kernel
abbrev cX11_init : ByteArray := prog_13_method_1_code
def yX11_init : MethodName := ⟨RX11, "<init>", "()V"⟩
abbrev cX11_in : ByteArray := prog_13_method_2_code
def yX11_in : MethodName := ⟨RX11, "in", "(JJJ)Z"⟩
abbrev cX11_isTown : ByteArray := prog_13_method_3_code
def yX11_isTown : MethodName := ⟨RX11, "isTown", "(I)Z"⟩
abbrev cX11_isPerson : ByteArray := prog_13_method_4_code
def yX11_isPerson : MethodName := ⟨RX11, "isPerson", "(I)Z"⟩
abbrev cX11_road : ByteArray := prog_13_method_5_code
def yX11_road : MethodName := ⟨RX11, "road", "(III)I"⟩
abbrev cX11_town : ByteArray := prog_13_method_6_code
def yX11_town : MethodName := ⟨RX11, "town", "(II)I"⟩
abbrev cX11_letters : ByteArray := prog_13_method_7_code
def yX11_letters : MethodName := ⟨RX11, "letters", "(J)I"⟩
abbrev cX11_blank : ByteArray := prog_13_method_8_code
def yX11_blank : MethodName := ⟨RX11, "blank", "()I"⟩
abbrev cX11_goPerson : ByteArray := prog_13_method_9_code
def yX11_goPerson : MethodName := ⟨RX11, "goPerson", "(I)Z"⟩
abbrev cX11_isBirth : ByteArray := prog_13_method_10_code
def yX11_isBirth : MethodName := ⟨RX11, "isBirth", "()Z"⟩
abbrev cX11_go : ByteArray := prog_13_method_11_code
def yX11_go : MethodName := ⟨RX11, "go", "(I)Z"⟩
abbrev cX11_faultOf : ByteArray := prog_13_method_12_code
def yX11_faultOf : MethodName := ⟨RX11, "faultOf", "()I"⟩
abbrev cX11_fault : ByteArray := prog_13_method_13_code
def yX11_fault : MethodName := ⟨RX11, "fault", "()I"⟩
abbrev cX11_births : ByteArray := prog_13_method_14_code
def yX11_births : MethodName := ⟨RX11, "births", "()I"⟩
abbrev cX11_birth : ByteArray := prog_13_method_15_code
def yX11_birth : MethodName := ⟨RX11, "birth", "(II)I"⟩
abbrev cX11_as : ByteArray := prog_13_method_16_code
def yX11_as : MethodName := ⟨RX11, "as", "(II)I"⟩
abbrev cX11_touchedBy : ByteArray := prog_13_method_17_code
def yX11_touchedBy : MethodName := ⟨RX11, "touchedBy", "(II)I"⟩
abbrev cX11_tellPerson : ByteArray := prog_13_method_18_code
def yX11_tellPerson : MethodName := ⟨RX11, "tellPerson", "(II)I"⟩
abbrev cX11_about : ByteArray := prog_13_method_19_code
def yX11_about : MethodName := ⟨RX11, "about", "(II)I"⟩
abbrev cX11_touch : ByteArray := prog_13_method_20_code
def yX11_touch : MethodName := ⟨RX11, "touch", "(II)I"⟩
abbrev cX11_forget : ByteArray := prog_13_method_21_code
def yX11_forget : MethodName := ⟨RX11, "forget", "()I"⟩
abbrev cX11_placeIn : ByteArray := prog_13_method_22_code
def yX11_placeIn : MethodName := ⟨RX11, "placeIn", "(II)I"⟩
abbrev cX11_lateBy : ByteArray := prog_13_method_23_code
def yX11_lateBy : MethodName := ⟨RX11, "lateBy", "(II)I"⟩
abbrev cX11_feltOf : ByteArray := prog_13_method_24_code
def yX11_feltOf : MethodName := ⟨RX11, "feltOf", "(IIII)I"⟩
abbrev cX11_areMinutes : ByteArray := prog_13_method_25_code
def yX11_areMinutes : MethodName := ⟨RX11, "areMinutes", "(II)Z"⟩
abbrev cX11_felt : ByteArray := prog_13_method_26_code
def yX11_felt : MethodName := ⟨RX11, "felt", "(III)I"⟩
abbrev cX11_term : ByteArray := prog_13_method_27_code
def yX11_term : MethodName := ⟨RX11, "term", "(JJI)J"⟩
abbrev cX11_isPart : ByteArray := prog_13_method_28_code
def yX11_isPart : MethodName := ⟨RX11, "isPart", "(I)Z"⟩
abbrev cX11_surely : ByteArray := prog_13_method_29_code
def yX11_surely : MethodName := ⟨RX11, "surely", "(IIII)J"⟩
abbrev cX11_isOver : ByteArray := prog_13_method_30_code
def yX11_isOver : MethodName := ⟨RX11, "isOver", "(I)Z"⟩
abbrev cX11_overOf : ByteArray := prog_13_method_31_code
def yX11_overOf : MethodName := ⟨RX11, "overOf", "()I"⟩
abbrev cX11_over : ByteArray := prog_13_method_32_code
def yX11_over : MethodName := ⟨RX11, "over", "()I"⟩
abbrev cX11_mayCome : ByteArray := prog_13_method_33_code
def yX11_mayCome : MethodName := ⟨RX11, "mayCome", "(III)V"⟩
abbrev cX11_layTouch : ByteArray := prog_13_method_34_code
def yX11_layTouch : MethodName := ⟨RX11, "layTouch", "(II)V"⟩
abbrev cX11_layWays : ByteArray := prog_13_method_35_code
def yX11_layWays : MethodName := ⟨RX11, "layWays", "(I)V"⟩
abbrev cX11_closeWays : ByteArray := prog_13_method_36_code
def yX11_closeWays : MethodName := ⟨RX11, "closeWays", "()V"⟩
abbrev cX11_soonestNow : ByteArray := prog_13_method_37_code
def yX11_soonestNow : MethodName := ⟨RX11, "soonestNow", "(II)I"⟩
abbrev cX11_soonest : ByteArray := prog_13_method_38_code
def yX11_soonest : MethodName := ⟨RX11, "soonest", "(II)I"⟩
abbrev cX11_unseen : ByteArray := prog_13_method_39_code
def yX11_unseen : MethodName := ⟨RX11, "unseen", "(III)I"⟩
abbrev cX11_isSoon : ByteArray := prog_13_method_40_code
def yX11_isSoon : MethodName := ⟨RX11, "isSoon", "(III)Z"⟩
abbrev cX11_tellPairs : ByteArray := prog_13_method_41_code
def yX11_tellPairs : MethodName := ⟨RX11, "tellPairs", "(IIII)I"⟩
abbrev cX11_kept : ByteArray := prog_13_method_42_code
def yX11_kept : MethodName := ⟨RX11, "kept", "(II)I"⟩
abbrev cX11_areWords : ByteArray := prog_13_method_43_code
def yX11_areWords : MethodName := ⟨RX11, "areWords", "(II)Z"⟩
abbrev cX11_ones : ByteArray := prog_13_method_44_code
def yX11_ones : MethodName := ⟨RX11, "ones", "(I)I"⟩
abbrev cX11_manyWords : ByteArray := prog_13_method_45_code
def yX11_manyWords : MethodName := ⟨RX11, "manyWords", "(III)I"⟩
abbrev cX11_words : ByteArray := prog_13_method_46_code
def yX11_words : MethodName := ⟨RX11, "words", "(III)I"⟩
abbrev cX11_least : ByteArray := prog_13_method_47_code
def yX11_least : MethodName := ⟨RX11, "least", "(III)I"⟩
abbrev cX11_missed : ByteArray := prog_13_method_48_code
def yX11_missed : MethodName := ⟨RX11, "missed", "(III)I"⟩
abbrev cX11_book : ByteArray := prog_13_method_49_code
def yX11_book : MethodName := ⟨RX11, "book", "(I)I"⟩
abbrev cX11_likely : ByteArray := prog_13_method_50_code
def yX11_likely : MethodName := ⟨RX11, "likely", "(III)J"⟩
abbrev cX11_read : ByteArray := prog_13_method_51_code
def yX11_read : MethodName := ⟨RX11, "read", "(IIII)J"⟩
abbrev cX11_crowd : ByteArray := prog_13_method_52_code
def yX11_crowd : MethodName := ⟨RX11, "crowd", "(I)I"⟩
abbrev cX11_wince : ByteArray := prog_13_method_53_code
def yX11_wince : MethodName := ⟨RX11, "wince", "(II)I"⟩
abbrev cX11_layPairing : ByteArray := prog_13_method_54_code
def yX11_layPairing : MethodName := ⟨RX11, "layPairing", "(I)V"⟩
abbrev cX11_isSo : ByteArray := prog_13_method_55_code
def yX11_isSo : MethodName := ⟨RX11, "isSo", "()Z"⟩
abbrev cX11_pairingsOf : ByteArray := prog_13_method_56_code
def yX11_pairingsOf : MethodName := ⟨RX11, "pairingsOf", "()I"⟩
abbrev cX11_pairings : ByteArray := prog_13_method_57_code
def yX11_pairings : MethodName := ⟨RX11, "pairings", "()I"⟩
abbrev cX11_twinNow : ByteArray := prog_13_method_58_code
def yX11_twinNow : MethodName := ⟨RX11, "twinNow", "(I)I"⟩
abbrev cX11_twin : ByteArray := prog_13_method_59_code
def yX11_twin : MethodName := ⟨RX11, "twin", "(I)I"⟩
abbrev cX11_round : ByteArray := prog_13_method_60_code
def yX11_round : MethodName := ⟨RX11, "round", "(III)J"⟩
abbrev cX11_image : ByteArray := prog_13_method_61_code
def yX11_image : MethodName := ⟨RX11, "image", "()I"⟩
abbrev cX11_restore : ByteArray := prog_13_method_62_code
def yX11_restore : MethodName := ⟨RX11, "restore", "()I"⟩
abbrev cX11_roadMany : ByteArray := prog_13_method_63_code
def yX11_roadMany : MethodName := ⟨RX11, "roadMany", "()I"⟩
abbrev cX11_countOf : ByteArray := prog_13_method_64_code
def yX11_countOf : MethodName := ⟨RX11, "countOf", "(I)I"⟩
abbrev cX11_count : ByteArray := prog_13_method_65_code
def yX11_count : MethodName := ⟨RX11, "count", "(I)I"⟩
abbrev cX11_say : ByteArray := prog_13_method_66_code
def yX11_say : MethodName := ⟨RX11, "say", "(J)V"⟩
abbrev cX11_sayNews : ByteArray := prog_13_method_67_code
def yX11_sayNews : MethodName := ⟨RX11, "sayNews", "()V"⟩
abbrev cX11_digest : ByteArray := prog_13_method_68_code
def yX11_digest : MethodName := ⟨RX11, "digest", "()J"⟩
def RJ6 : String := "java/lang/Integer"
def TJ6 : u_T := fun k => match k with
  | _ => ("", "", "", false)
def tyJ6 : Nat → FieldType := fun k => match k with
  | _ => .int
abbrev wsJ60 : List Cond := u_ws RJ6 TJ6 0
theorem nmJ6 : ∀ a, a < 0 → ∀ b, b < 0 → a ≠ b → (TJ6 a).2.1 ≠ (TJ6 b).2.1 := by decide +kernel
theorem tyJ6_ok : ∀ k, k < 0 → parseFieldDescriptor (TJ6 k).2.2.1 = some (tyJ6 k) := by decide +kernel
abbrev cJ6_bitCount_0f7a4 : ByteArray := prog_14_method_49_code
def yJ6_bitCount_0f7a4 : MethodName := ⟨RJ6, "bitCount", "(I)I"⟩
def RJ9 : String := "java/lang/Math"
def TJ9 : u_T := fun k => match k with
  | _ => ("", "", "", false)
def tyJ9 : Nat → FieldType := fun k => match k with
  | _ => .int
abbrev wsJ90 : List Cond := u_ws RJ9 TJ9 0
theorem nmJ9 : ∀ a, a < 0 → ∀ b, b < 0 → a ≠ b → (TJ9 a).2.1 ≠ (TJ9 b).2.1 := by decide +kernel
theorem tyJ9_ok : ∀ k, k < 0 → parseFieldDescriptor (TJ9 k).2.2.1 = some (tyJ9 k) := by decide +kernel
abbrev cJ9_min_7cf53 : ByteArray := prog_15_method_69_code
def yJ9_min_7cf53 : MethodName := ⟨RJ9, "min", "(II)I"⟩
def RJ10 : String := "java/lang/System"
def TJ10 : u_T := fun k => match k with
  | _ => ("", "", "", false)
def tyJ10 : Nat → FieldType := fun k => match k with
  | _ => .int
abbrev wsJ100 : List Cond := u_ws RJ10 TJ10 0
theorem nmJ10 : ∀ a, a < 0 → ∀ b, b < 0 → a ≠ b → (TJ10 a).2.1 ≠ (TJ10 b).2.1 := by decide +kernel
theorem tyJ10_ok : ∀ k, k < 0 → parseFieldDescriptor (TJ10 k).2.2.1 = some (tyJ10 k) := by decide +kernel
def RJ7 : String := "java/util/Arrays"
def TJ7 : u_T := fun k => match k with
  | _ => ("", "", "", false)
def tyJ7 : Nat → FieldType := fun k => match k with
  | _ => .int
abbrev wsJ70 : List Cond := u_ws RJ7 TJ7 0
theorem nmJ7 : ∀ a, a < 0 → ∀ b, b < 0 → a ≠ b → (TJ7 a).2.1 ≠ (TJ7 b).2.1 := by decide +kernel
theorem tyJ7_ok : ∀ k, k < 0 → parseFieldDescriptor (TJ7 k).2.2.1 = some (tyJ7 k) := by decide +kernel
abbrev cJ7_fill_53178 : ByteArray := prog_17_method_103_code
def yJ7_fill_53178 : MethodName := ⟨RJ7, "fill", "([II)V"⟩
def RL : String := "FeltByTwinLaw"
abbrev cL_law : ByteArray := code
def yL_law : MethodName := ⟨RL, "law", "([I)Z"⟩
abbrev vwCl : List vw_C := [(RX0, TX0, 4), (RX1, TX1, 2), (RX2, TX2, 6), (RX3, TX3, 5), (RX4, TX4, 4), (RX5, TX5, 2), (RX6, TX6, 3), (RX7, TX7, 3), (RX8, TX8, 4), (RX9, TX9, 1), (RX10, TX10, 12), (RX11, TX11, 35)]
