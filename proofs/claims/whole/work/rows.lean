section
-- ===== PART A: goes FIRST, ahead of the names: the tables' words, and 'selects' of the private methods out of them =====
/-- a private method of a class that the tables say can be made, by its rows of tables_1 -/
def lw_okq (q : MethodName × Nat) : Prop := (q.1.cls ≠ "java/lang/invoke/MethodHandle" ∧ q.1.cls ≠ "java/lang/invoke/VarHandle") ∧ Cond.instantiable q.1.cls q.2 ∈ tables_1 ∧ Cond.privateMethod q.1 ∈ tables_1 ∧ Cond.instanceMethod q.1 ∈ tables_1
theorem lw_p0 : lw_okq (⟨"FeltByTwin$Register", "beginBirth", "()Z"⟩, 3) := ⟨⟨by decide +kernel, by decide +kernel⟩, List.mem_of_getElem? (i := 170) (by decide +kernel), List.mem_of_getElem? (i := 302) (by decide +kernel), List.mem_of_getElem? (i := 303) (by decide +kernel)⟩
theorem lw_p1 : lw_okq (⟨"FeltByTwin$Register", "take", "(I)Z"⟩, 3) := ⟨⟨by decide +kernel, by decide +kernel⟩, List.mem_of_getElem? (i := 170) (by decide +kernel), List.mem_of_getElem? (i := 315) (by decide +kernel), List.mem_of_getElem? (i := 316) (by decide +kernel)⟩
theorem lw_p2 : lw_okq (⟨"FeltByTwin$Register", "takeDigit", "(LFeltByTwin$Birth;I)Z"⟩, 3) := ⟨⟨by decide +kernel, by decide +kernel⟩, List.mem_of_getElem? (i := 170) (by decide +kernel), List.mem_of_getElem? (i := 331) (by decide +kernel), List.mem_of_getElem? (i := 332) (by decide +kernel)⟩
theorem lw_p3 : lw_okq (⟨"FeltByTwin$Touches", "isOverBehind", "(LFeltByTwin$Register;II)Z"⟩, 4) := ⟨⟨by decide +kernel, by decide +kernel⟩, List.mem_of_getElem? (i := 40) (by decide +kernel), List.mem_of_getElem? (i := 478) (by decide +kernel), List.mem_of_getElem? (i := 479) (by decide +kernel)⟩
theorem lw_p4 : lw_okq (⟨"FeltByTwin$Touches", "talliedFor", "(II)I"⟩, 4) := ⟨⟨by decide +kernel, by decide +kernel⟩, List.mem_of_getElem? (i := 40) (by decide +kernel), List.mem_of_getElem? (i := 482) (by decide +kernel), List.mem_of_getElem? (i := 483) (by decide +kernel)⟩
theorem lw_p5 : lw_okq (⟨"FeltByTwin$News", "addPinches", "(LFeltByTwin$Birth;[I)V"⟩, 4) := ⟨⟨by decide +kernel, by decide +kernel⟩, List.mem_of_getElem? (i := 59) (by decide +kernel), List.mem_of_getElem? (i := 519) (by decide +kernel), List.mem_of_getElem? (i := 520) (by decide +kernel)⟩
theorem lw_p6 : lw_okq (⟨"FeltByTwin$Ways", "joinThrough", "(II)V"⟩, 1) := ⟨⟨by decide +kernel, by decide +kernel⟩, List.mem_of_getElem? (i := 65) (by decide +kernel), List.mem_of_getElem? (i := 534) (by decide +kernel), List.mem_of_getElem? (i := 535) (by decide +kernel)⟩
theorem lw_p7 : lw_okq (⟨"FeltByTwin$News", "isWithinByOne", "(I)Z"⟩, 4) := ⟨⟨by decide +kernel, by decide +kernel⟩, List.mem_of_getElem? (i := 59) (by decide +kernel), List.mem_of_getElem? (i := 568) (by decide +kernel), List.mem_of_getElem? (i := 569) (by decide +kernel)⟩
theorem lw_p8 : lw_okq (⟨"FeltByTwin$Ways", "betweenWithBond", "(IIII)I"⟩, 1) := ⟨⟨by decide +kernel, by decide +kernel⟩, List.mem_of_getElem? (i := 65) (by decide +kernel), List.mem_of_getElem? (i := 580) (by decide +kernel), List.mem_of_getElem? (i := 581) (by decide +kernel)⟩
theorem lw_p9 : lw_okq (⟨"FeltByTwin$News", "notePair", "(II)V"⟩, 4) := ⟨⟨by decide +kernel, by decide +kernel⟩, List.mem_of_getElem? (i := 59) (by decide +kernel), List.mem_of_getElem? (i := 584) (by decide +kernel), List.mem_of_getElem? (i := 585) (by decide +kernel)⟩
theorem lw_p10 : lw_okq (⟨"FeltByTwin$News", "isWithinByTwo", "(I)Z"⟩, 4) := ⟨⟨by decide +kernel, by decide +kernel⟩, List.mem_of_getElem? (i := 59) (by decide +kernel), List.mem_of_getElem? (i := 588) (by decide +kernel), List.mem_of_getElem? (i := 589) (by decide +kernel)⟩
theorem lw_p11 : lw_okq (⟨"FeltByTwin$Rows", "choose", "(IIII)V"⟩, 3) := ⟨⟨by decide +kernel, by decide +kernel⟩, List.mem_of_getElem? (i := 126) (by decide +kernel), List.mem_of_getElem? (i := 633) (by decide +kernel), List.mem_of_getElem? (i := 634) (by decide +kernel)⟩
theorem lw_p12 : lw_okq (⟨"FeltByTwin$Crowd", "pairUp", "(II)I"⟩, 6) := ⟨⟨by decide +kernel, by decide +kernel⟩, List.mem_of_getElem? (i := 101) (by decide +kernel), List.mem_of_getElem? (i := 711) (by decide +kernel), List.mem_of_getElem? (i := 712) (by decide +kernel)⟩
theorem lw_p13 : lw_okq (⟨"FeltByTwin$Crowd", "mayBeTwins", "(II)Z"⟩, 6) := ⟨⟨by decide +kernel, by decide +kernel⟩, List.mem_of_getElem? (i := 101) (by decide +kernel), List.mem_of_getElem? (i := 719) (by decide +kernel), List.mem_of_getElem? (i := 720) (by decide +kernel)⟩
theorem lw_p14 : lw_okq (⟨"FeltByTwin", "mixBirths", "(J)J"⟩, 12) := ⟨⟨by decide +kernel, by decide +kernel⟩, List.mem_of_getElem? (i := 18) (by decide +kernel), List.mem_of_getElem? (i := 791) (by decide +kernel), List.mem_of_getElem? (i := 792) (by decide +kernel)⟩
theorem lw_p15 : lw_okq (⟨"FeltByTwin", "mixPeople", "(J)J"⟩, 12) := ⟨⟨by decide +kernel, by decide +kernel⟩, List.mem_of_getElem? (i := 18) (by decide +kernel), List.mem_of_getElem? (i := 800) (by decide +kernel), List.mem_of_getElem? (i := 801) (by decide +kernel)⟩
def lw_privs_1 : List (MethodName × Nat) := [(⟨"FeltByTwin$Register", "beginBirth", "()Z"⟩, 3), (⟨"FeltByTwin$Register", "take", "(I)Z"⟩, 3), (⟨"FeltByTwin$Register", "takeDigit", "(LFeltByTwin$Birth;I)Z"⟩, 3), (⟨"FeltByTwin$Touches", "isOverBehind", "(LFeltByTwin$Register;II)Z"⟩, 4), (⟨"FeltByTwin$Touches", "talliedFor", "(II)I"⟩, 4), (⟨"FeltByTwin$News", "addPinches", "(LFeltByTwin$Birth;[I)V"⟩, 4), (⟨"FeltByTwin$Ways", "joinThrough", "(II)V"⟩, 1), (⟨"FeltByTwin$News", "isWithinByOne", "(I)Z"⟩, 4), (⟨"FeltByTwin$Ways", "betweenWithBond", "(IIII)I"⟩, 1), (⟨"FeltByTwin$News", "notePair", "(II)V"⟩, 4), (⟨"FeltByTwin$News", "isWithinByTwo", "(I)Z"⟩, 4), (⟨"FeltByTwin$Rows", "choose", "(IIII)V"⟩, 3), (⟨"FeltByTwin$Crowd", "pairUp", "(II)I"⟩, 6), (⟨"FeltByTwin$Crowd", "mayBeTwins", "(II)Z"⟩, 6), (⟨"FeltByTwin", "mixBirths", "(J)J"⟩, 12), (⟨"FeltByTwin", "mixPeople", "(J)J"⟩, 12)]
theorem lw_r1 : ∀ q ∈ lw_privs_1, lw_okq q := List.forall_mem_cons.mpr ⟨lw_p0, List.forall_mem_cons.mpr ⟨lw_p1, List.forall_mem_cons.mpr ⟨lw_p2, List.forall_mem_cons.mpr ⟨lw_p3, List.forall_mem_cons.mpr ⟨lw_p4, List.forall_mem_cons.mpr ⟨lw_p5, List.forall_mem_cons.mpr ⟨lw_p6, List.forall_mem_cons.mpr ⟨lw_p7, List.forall_mem_cons.mpr ⟨lw_p8, List.forall_mem_cons.mpr ⟨lw_p9, List.forall_mem_cons.mpr ⟨lw_p10, List.forall_mem_cons.mpr ⟨lw_p11, List.forall_mem_cons.mpr ⟨lw_p12, List.forall_mem_cons.mpr ⟨lw_p13, List.forall_mem_cons.mpr ⟨lw_p14, List.forall_mem_cons.mpr ⟨lw_p15, fun _ h => absurd h List.not_mem_nil⟩⟩⟩⟩⟩⟩⟩⟩⟩⟩⟩⟩⟩⟩⟩⟩
theorem lw_p16 : lw_okq (⟨"FeltByTwin", "mixNews", "(J)J"⟩, 12) := ⟨⟨by decide +kernel, by decide +kernel⟩, List.mem_of_getElem? (i := 18) (by decide +kernel), List.mem_of_getElem? (i := 807) (by decide +kernel), List.mem_of_getElem? (i := 808) (by decide +kernel)⟩
theorem lw_p17 : lw_okq (⟨"FeltByTwin", "mixBook", "(J)J"⟩, 12) := ⟨⟨by decide +kernel, by decide +kernel⟩, List.mem_of_getElem? (i := 18) (by decide +kernel), List.mem_of_getElem? (i := 811) (by decide +kernel), List.mem_of_getElem? (i := 812) (by decide +kernel)⟩
theorem lw_p18 : lw_okq (⟨"FeltByTwin", "mixCrowd", "(J)J"⟩, 12) := ⟨⟨by decide +kernel, by decide +kernel⟩, List.mem_of_getElem? (i := 18) (by decide +kernel), List.mem_of_getElem? (i := 816) (by decide +kernel), List.mem_of_getElem? (i := 817) (by decide +kernel)⟩
theorem lw_p19 : lw_okq (⟨"FeltByTwin", "mixPage", "(J)J"⟩, 12) := ⟨⟨by decide +kernel, by decide +kernel⟩, List.mem_of_getElem? (i := 18) (by decide +kernel), List.mem_of_getElem? (i := 820) (by decide +kernel), List.mem_of_getElem? (i := 821) (by decide +kernel)⟩
theorem lw_p20 : lw_okq (⟨"FeltByTwinModel", "faultOf", "()I"⟩, 35) := ⟨⟨by decide +kernel, by decide +kernel⟩, List.mem_of_getElem? (i := 826) (by decide +kernel), List.mem_of_getElem? (i := 971) (by decide +kernel), List.mem_of_getElem? (i := 972) (by decide +kernel)⟩
theorem lw_p21 : lw_okq (⟨"FeltByTwinModel", "go", "(I)Z"⟩, 35) := ⟨⟨by decide +kernel, by decide +kernel⟩, List.mem_of_getElem? (i := 826) (by decide +kernel), List.mem_of_getElem? (i := 975) (by decide +kernel), List.mem_of_getElem? (i := 976) (by decide +kernel)⟩
theorem lw_p22 : lw_okq (⟨"FeltByTwinModel", "goPerson", "(I)Z"⟩, 35) := ⟨⟨by decide +kernel, by decide +kernel⟩, List.mem_of_getElem? (i := 826) (by decide +kernel), List.mem_of_getElem? (i := 979) (by decide +kernel), List.mem_of_getElem? (i := 980) (by decide +kernel)⟩
theorem lw_p23 : lw_okq (⟨"FeltByTwinModel", "isBirth", "()Z"⟩, 35) := ⟨⟨by decide +kernel, by decide +kernel⟩, List.mem_of_getElem? (i := 826) (by decide +kernel), List.mem_of_getElem? (i := 985) (by decide +kernel), List.mem_of_getElem? (i := 986) (by decide +kernel)⟩
theorem lw_p24 : lw_okq (⟨"FeltByTwinModel", "tellPerson", "(II)I"⟩, 35) := ⟨⟨by decide +kernel, by decide +kernel⟩, List.mem_of_getElem? (i := 826) (by decide +kernel), List.mem_of_getElem? (i := 1007) (by decide +kernel), List.mem_of_getElem? (i := 1008) (by decide +kernel)⟩
theorem lw_p25 : lw_okq (⟨"FeltByTwinModel", "touchedBy", "(II)I"⟩, 35) := ⟨⟨by decide +kernel, by decide +kernel⟩, List.mem_of_getElem? (i := 826) (by decide +kernel), List.mem_of_getElem? (i := 1011) (by decide +kernel), List.mem_of_getElem? (i := 1012) (by decide +kernel)⟩
theorem lw_p26 : lw_okq (⟨"FeltByTwinModel", "feltOf", "(IIII)I"⟩, 35) := ⟨⟨by decide +kernel, by decide +kernel⟩, List.mem_of_getElem? (i := 826) (by decide +kernel), List.mem_of_getElem? (i := 1032) (by decide +kernel), List.mem_of_getElem? (i := 1033) (by decide +kernel)⟩
theorem lw_p27 : lw_okq (⟨"FeltByTwinModel", "lateBy", "(II)I"⟩, 35) := ⟨⟨by decide +kernel, by decide +kernel⟩, List.mem_of_getElem? (i := 826) (by decide +kernel), List.mem_of_getElem? (i := 1036) (by decide +kernel), List.mem_of_getElem? (i := 1037) (by decide +kernel)⟩
theorem lw_p28 : lw_okq (⟨"FeltByTwinModel", "placeIn", "(II)I"⟩, 35) := ⟨⟨by decide +kernel, by decide +kernel⟩, List.mem_of_getElem? (i := 826) (by decide +kernel), List.mem_of_getElem? (i := 1040) (by decide +kernel), List.mem_of_getElem? (i := 1041) (by decide +kernel)⟩
theorem lw_p29 : lw_okq (⟨"FeltByTwinModel", "overOf", "()I"⟩, 35) := ⟨⟨by decide +kernel, by decide +kernel⟩, List.mem_of_getElem? (i := 826) (by decide +kernel), List.mem_of_getElem? (i := 1061) (by decide +kernel), List.mem_of_getElem? (i := 1062) (by decide +kernel)⟩
theorem lw_p30 : lw_okq (⟨"FeltByTwinModel", "isOver", "(I)Z"⟩, 35) := ⟨⟨by decide +kernel, by decide +kernel⟩, List.mem_of_getElem? (i := 826) (by decide +kernel), List.mem_of_getElem? (i := 1065) (by decide +kernel), List.mem_of_getElem? (i := 1066) (by decide +kernel)⟩
theorem lw_p31 : lw_okq (⟨"FeltByTwinModel", "layWays", "(I)V"⟩, 35) := ⟨⟨by decide +kernel, by decide +kernel⟩, List.mem_of_getElem? (i := 826) (by decide +kernel), List.mem_of_getElem? (i := 1073) (by decide +kernel), List.mem_of_getElem? (i := 1074) (by decide +kernel)⟩
def lw_privs_2 : List (MethodName × Nat) := [(⟨"FeltByTwin", "mixNews", "(J)J"⟩, 12), (⟨"FeltByTwin", "mixBook", "(J)J"⟩, 12), (⟨"FeltByTwin", "mixCrowd", "(J)J"⟩, 12), (⟨"FeltByTwin", "mixPage", "(J)J"⟩, 12), (⟨"FeltByTwinModel", "faultOf", "()I"⟩, 35), (⟨"FeltByTwinModel", "go", "(I)Z"⟩, 35), (⟨"FeltByTwinModel", "goPerson", "(I)Z"⟩, 35), (⟨"FeltByTwinModel", "isBirth", "()Z"⟩, 35), (⟨"FeltByTwinModel", "tellPerson", "(II)I"⟩, 35), (⟨"FeltByTwinModel", "touchedBy", "(II)I"⟩, 35), (⟨"FeltByTwinModel", "feltOf", "(IIII)I"⟩, 35), (⟨"FeltByTwinModel", "lateBy", "(II)I"⟩, 35), (⟨"FeltByTwinModel", "placeIn", "(II)I"⟩, 35), (⟨"FeltByTwinModel", "overOf", "()I"⟩, 35), (⟨"FeltByTwinModel", "isOver", "(I)Z"⟩, 35), (⟨"FeltByTwinModel", "layWays", "(I)V"⟩, 35)]
theorem lw_r2 : ∀ q ∈ lw_privs_2, lw_okq q := List.forall_mem_cons.mpr ⟨lw_p16, List.forall_mem_cons.mpr ⟨lw_p17, List.forall_mem_cons.mpr ⟨lw_p18, List.forall_mem_cons.mpr ⟨lw_p19, List.forall_mem_cons.mpr ⟨lw_p20, List.forall_mem_cons.mpr ⟨lw_p21, List.forall_mem_cons.mpr ⟨lw_p22, List.forall_mem_cons.mpr ⟨lw_p23, List.forall_mem_cons.mpr ⟨lw_p24, List.forall_mem_cons.mpr ⟨lw_p25, List.forall_mem_cons.mpr ⟨lw_p26, List.forall_mem_cons.mpr ⟨lw_p27, List.forall_mem_cons.mpr ⟨lw_p28, List.forall_mem_cons.mpr ⟨lw_p29, List.forall_mem_cons.mpr ⟨lw_p30, List.forall_mem_cons.mpr ⟨lw_p31, fun _ h => absurd h List.not_mem_nil⟩⟩⟩⟩⟩⟩⟩⟩⟩⟩⟩⟩⟩⟩⟩⟩
theorem lw_p32 : lw_okq (⟨"FeltByTwinModel", "layTouch", "(II)V"⟩, 35) := ⟨⟨by decide +kernel, by decide +kernel⟩, List.mem_of_getElem? (i := 826) (by decide +kernel), List.mem_of_getElem? (i := 1078) (by decide +kernel), List.mem_of_getElem? (i := 1079) (by decide +kernel)⟩
theorem lw_p33 : lw_okq (⟨"FeltByTwinModel", "mayCome", "(III)V"⟩, 35) := ⟨⟨by decide +kernel, by decide +kernel⟩, List.mem_of_getElem? (i := 826) (by decide +kernel), List.mem_of_getElem? (i := 1082) (by decide +kernel), List.mem_of_getElem? (i := 1083) (by decide +kernel)⟩
theorem lw_p34 : lw_okq (⟨"FeltByTwinModel", "closeWays", "()V"⟩, 35) := ⟨⟨by decide +kernel, by decide +kernel⟩, List.mem_of_getElem? (i := 826) (by decide +kernel), List.mem_of_getElem? (i := 1086) (by decide +kernel), List.mem_of_getElem? (i := 1087) (by decide +kernel)⟩
theorem lw_p35 : lw_okq (⟨"FeltByTwinModel", "soonestNow", "(II)I"⟩, 35) := ⟨⟨by decide +kernel, by decide +kernel⟩, List.mem_of_getElem? (i := 826) (by decide +kernel), List.mem_of_getElem? (i := 1090) (by decide +kernel), List.mem_of_getElem? (i := 1091) (by decide +kernel)⟩
theorem lw_p36 : lw_okq (⟨"FeltByTwinModel", "isSoon", "(III)Z"⟩, 35) := ⟨⟨by decide +kernel, by decide +kernel⟩, List.mem_of_getElem? (i := 826) (by decide +kernel), List.mem_of_getElem? (i := 1104) (by decide +kernel), List.mem_of_getElem? (i := 1105) (by decide +kernel)⟩
theorem lw_p37 : lw_okq (⟨"FeltByTwinModel", "pairingsOf", "()I"⟩, 35) := ⟨⟨by decide +kernel, by decide +kernel⟩, List.mem_of_getElem? (i := 826) (by decide +kernel), List.mem_of_getElem? (i := 1158) (by decide +kernel), List.mem_of_getElem? (i := 1159) (by decide +kernel)⟩
theorem lw_p38 : lw_okq (⟨"FeltByTwinModel", "layPairing", "(I)V"⟩, 35) := ⟨⟨by decide +kernel, by decide +kernel⟩, List.mem_of_getElem? (i := 826) (by decide +kernel), List.mem_of_getElem? (i := 1162) (by decide +kernel), List.mem_of_getElem? (i := 1163) (by decide +kernel)⟩
theorem lw_p39 : lw_okq (⟨"FeltByTwinModel", "isSo", "()Z"⟩, 35) := ⟨⟨by decide +kernel, by decide +kernel⟩, List.mem_of_getElem? (i := 826) (by decide +kernel), List.mem_of_getElem? (i := 1166) (by decide +kernel), List.mem_of_getElem? (i := 1167) (by decide +kernel)⟩
theorem lw_p40 : lw_okq (⟨"FeltByTwinModel", "twinNow", "(I)I"⟩, 35) := ⟨⟨by decide +kernel, by decide +kernel⟩, List.mem_of_getElem? (i := 826) (by decide +kernel), List.mem_of_getElem? (i := 1174) (by decide +kernel), List.mem_of_getElem? (i := 1175) (by decide +kernel)⟩
theorem lw_p41 : lw_okq (⟨"FeltByTwinModel", "countOf", "(I)I"⟩, 35) := ⟨⟨by decide +kernel, by decide +kernel⟩, List.mem_of_getElem? (i := 826) (by decide +kernel), List.mem_of_getElem? (i := 1195) (by decide +kernel), List.mem_of_getElem? (i := 1196) (by decide +kernel)⟩
theorem lw_p42 : lw_okq (⟨"FeltByTwinModel", "roadMany", "()I"⟩, 35) := ⟨⟨by decide +kernel, by decide +kernel⟩, List.mem_of_getElem? (i := 826) (by decide +kernel), List.mem_of_getElem? (i := 1199) (by decide +kernel), List.mem_of_getElem? (i := 1200) (by decide +kernel)⟩
theorem lw_p43 : lw_okq (⟨"FeltByTwinModel", "say", "(J)V"⟩, 35) := ⟨⟨by decide +kernel, by decide +kernel⟩, List.mem_of_getElem? (i := 826) (by decide +kernel), List.mem_of_getElem? (i := 1208) (by decide +kernel), List.mem_of_getElem? (i := 1209) (by decide +kernel)⟩
theorem lw_p44 : lw_okq (⟨"FeltByTwinModel", "sayNews", "()V"⟩, 35) := ⟨⟨by decide +kernel, by decide +kernel⟩, List.mem_of_getElem? (i := 826) (by decide +kernel), List.mem_of_getElem? (i := 1213) (by decide +kernel), List.mem_of_getElem? (i := 1214) (by decide +kernel)⟩
def lw_privs_3 : List (MethodName × Nat) := [(⟨"FeltByTwinModel", "layTouch", "(II)V"⟩, 35), (⟨"FeltByTwinModel", "mayCome", "(III)V"⟩, 35), (⟨"FeltByTwinModel", "closeWays", "()V"⟩, 35), (⟨"FeltByTwinModel", "soonestNow", "(II)I"⟩, 35), (⟨"FeltByTwinModel", "isSoon", "(III)Z"⟩, 35), (⟨"FeltByTwinModel", "pairingsOf", "()I"⟩, 35), (⟨"FeltByTwinModel", "layPairing", "(I)V"⟩, 35), (⟨"FeltByTwinModel", "isSo", "()Z"⟩, 35), (⟨"FeltByTwinModel", "twinNow", "(I)I"⟩, 35), (⟨"FeltByTwinModel", "countOf", "(I)I"⟩, 35), (⟨"FeltByTwinModel", "roadMany", "()I"⟩, 35), (⟨"FeltByTwinModel", "say", "(J)V"⟩, 35), (⟨"FeltByTwinModel", "sayNews", "()V"⟩, 35)]
theorem lw_r3 : ∀ q ∈ lw_privs_3, lw_okq q := List.forall_mem_cons.mpr ⟨lw_p32, List.forall_mem_cons.mpr ⟨lw_p33, List.forall_mem_cons.mpr ⟨lw_p34, List.forall_mem_cons.mpr ⟨lw_p35, List.forall_mem_cons.mpr ⟨lw_p36, List.forall_mem_cons.mpr ⟨lw_p37, List.forall_mem_cons.mpr ⟨lw_p38, List.forall_mem_cons.mpr ⟨lw_p39, List.forall_mem_cons.mpr ⟨lw_p40, List.forall_mem_cons.mpr ⟨lw_p41, List.forall_mem_cons.mpr ⟨lw_p42, List.forall_mem_cons.mpr ⟨lw_p43, List.forall_mem_cons.mpr ⟨lw_p44, fun _ h => absurd h List.not_mem_nil⟩⟩⟩⟩⟩⟩⟩⟩⟩⟩⟩⟩⟩
def lw_privs : List (MethodName × Nat) := lw_privs_1 ++ (lw_privs_2 ++ (lw_privs_3))
def lw_tbl : List Cond := k2_sels lw_privs ++ tables_1
theorem lw_privs_ok : ∀ q ∈ lw_privs, lw_okq q := by
  show ∀ q ∈ lw_privs_1 ++ (lw_privs_2 ++ (lw_privs_3)), lw_okq q
  exact List.forall_mem_append.mpr ⟨lw_r1, List.forall_mem_append.mpr ⟨lw_r2, lw_r3⟩⟩
/-! ===== BEGIN words of one list among another's, by their places ===== -/
theorem goodIn_r {big : List Cond} (ws : List Cond) (ps : List Nat) (hp : ws = ps.filterMap (fun i => big[i]?)) (h : ws.all goodWord = true) : GoodIn big ws := by
  intro w hw
  have h1 := List.all_eq_true.mp h w hw
  rw [hp] at hw
  obtain ⟨i, -, hi⟩ := List.mem_filterMap.mp hw
  have hm : w ∈ big := by first | exact List.mem_of_getElem? hi | exact List.getElem?_mem hi
  exact ⟨hm, good_of_word h1⟩
theorem goodIn_app {big a b : List Cond} (ha : GoodIn big a) (hb : GoodIn big b) : GoodIn big (a ++ b) := fun w h => (List.mem_append.mp h).elim (ha w) (hb w)
theorem goodIn_ca {big a b : List Cond} {c : Cond} (ha : GoodIn big (c :: a)) (hb : GoodIn big b) : GoodIn big (c :: (a ++ b)) := fun w h => (List.mem_cons.mp h).elim (fun e => ha w (List.mem_cons.mpr (Or.inl e))) (fun h => (List.mem_append.mp h).elim (fun h => ha w (List.mem_cons.mpr (Or.inr h))) (hb w))
theorem goodIn_sub {big ws : List Cond} (hm : ∀ w ∈ ws, w ∈ big) (h : ws.all goodWord = true) : GoodIn big ws := fun w hw => ⟨hm w hw, good_of_word (List.all_eq_true.mp h w hw)⟩
/-! ===== END ===== -/
def RX0 : String := "FeltByTwin$Birth"
def TX0 : u_T := fun k => match k with
  | 0 => ("FeltByTwin$Birth", "members", "[I", true)
  | 1 => ("FeltByTwin$Birth", "kind", "I", false)
  | 2 => ("FeltByTwin$Birth", "amount", "I", false)
  | _ => ("FeltByTwin$Birth", "many", "I", false)
def tyX0 : Nat → FieldType := fun k => match k with
  | 0 => .array .int
  | 1 => .int
  | 2 => .int
  | _ => .int
abbrev wsX00 : List Cond := u_ws RX0 TX0 4
theorem nmX0 : ∀ a, a < 4 → ∀ b, b < 4 → a ≠ b → (TX0 a).2.1 ≠ (TX0 b).2.1 := by decide +kernel
theorem tyX0_ok : ∀ k, k < 4 → parseFieldDescriptor (TX0 k).2.2.1 = some (tyX0 k) := by decide +kernel
abbrev cX0_init : ByteArray := prog_2_method_1_code
def yX0_init : MethodName := ⟨RX0, "<init>", "()V"⟩
abbrev cX0_begin : ByteArray := prog_2_method_2_code
def yX0_begin : MethodName := ⟨RX0, "begin", "()V"⟩
abbrev cX0_takeSign : ByteArray := prog_2_method_3_code
def yX0_takeSign : MethodName := ⟨RX0, "takeSign", "(I)Z"⟩
abbrev cX0_needsAmount : ByteArray := prog_2_method_4_code
def yX0_needsAmount : MethodName := ⟨RX0, "needsAmount", "()Z"⟩
abbrev cX0_takeAmount : ByteArray := prog_2_method_5_code
def yX0_takeAmount : MethodName := ⟨RX0, "takeAmount", "(I)Z"⟩
abbrev cX0_takePerson : ByteArray := prog_2_method_6_code
def yX0_takePerson : MethodName := ⟨RX0, "takePerson", "(I)Z"⟩
abbrev cX0_isWhole : ByteArray := prog_2_method_7_code
def yX0_isWhole : MethodName := ⟨RX0, "isWhole", "()Z"⟩
abbrev cX0_isA : ByteArray := prog_2_method_8_code
def yX0_isA : MethodName := ⟨RX0, "isA", "(I)Z"⟩
abbrev cX0_size : ByteArray := prog_2_method_9_code
def yX0_size : MethodName := ⟨RX0, "size", "()I"⟩
abbrev cX0_tenths : ByteArray := prog_2_method_10_code
def yX0_tenths : MethodName := ⟨RX0, "tenths", "()I"⟩
abbrev cX0_fact : ByteArray := prog_2_method_11_code
def yX0_fact : MethodName := ⟨RX0, "fact", "(I)I"⟩
abbrev cX0_member : ByteArray := prog_2_method_12_code
def yX0_member : MethodName := ⟨RX0, "member", "(I)I"⟩
abbrev cX0_placeOf : ByteArray := prog_2_method_13_code
def yX0_placeOf : MethodName := ⟨RX0, "placeOf", "(I)I"⟩
abbrev cX0_hasAnyOf : ByteArray := prog_2_method_14_code
def yX0_hasAnyOf : MethodName := ⟨RX0, "hasAnyOf", "(I)Z"⟩
abbrev cX0_delay : ByteArray := prog_2_method_15_code
def yX0_delay : MethodName := ⟨RX0, "delay", "(II)I"⟩
def RX1 : String := "FeltByTwin$Book"
def TX1 : u_T := fun k => match k with
  | 0 => ("FeltByTwin$Book", "words", "[I", true)
  | _ => ("FeltByTwin$Book", "many", "I", false)
def tyX1 : Nat → FieldType := fun k => match k with
  | 0 => .array .int
  | _ => .int
abbrev wsX10 : List Cond := u_ws RX1 TX1 2
theorem nmX1 : ∀ a, a < 2 → ∀ b, b < 2 → a ≠ b → (TX1 a).2.1 ≠ (TX1 b).2.1 := by decide +kernel
theorem tyX1_ok : ∀ k, k < 2 → parseFieldDescriptor (TX1 k).2.2.1 = some (tyX1 k) := by decide +kernel
abbrev cX1_init : ByteArray := prog_3_method_1_code
def yX1_init : MethodName := ⟨RX1, "<init>", "()V"⟩
abbrev cX1_size : ByteArray := prog_3_method_2_code
def yX1_size : MethodName := ⟨RX1, "size", "()I"⟩
abbrev cX1_at : ByteArray := prog_3_method_3_code
def yX1_at : MethodName := ⟨RX1, "at", "(I)I"⟩
abbrev cX1_add : ByteArray := prog_3_method_4_code
def yX1_add : MethodName := ⟨RX1, "add", "(I)I"⟩
abbrev cX1_copyFrom : ByteArray := prog_3_method_5_code
def yX1_copyFrom : MethodName := ⟨RX1, "copyFrom", "(LFeltByTwin$Book;)V"⟩
abbrev cX1_weight : ByteArray := prog_3_method_6_code
def yX1_weight : MethodName := ⟨RX1, "weight", "(III)J"⟩
abbrev cX1_weightOfAll : ByteArray := prog_3_method_7_code
def yX1_weightOfAll : MethodName := ⟨RX1, "weightOfAll", "(II)J"⟩
def RX2 : String := "FeltByTwin$Crowd"
def TX2 : u_T := fun k => match k with
  | 0 => ("FeltByTwin$Crowd", "touched", "[I", true)
  | 1 => ("FeltByTwin$Crowd", "sets", "[I", true)
  | 2 => ("FeltByTwin$Crowd", "allowed", "[I", true)
  | 3 => ("FeltByTwin$Crowd", "twins", "[I", true)
  | 4 => ("FeltByTwin$Crowd", "size", "I", false)
  | _ => ("FeltByTwin$Crowd", "many", "I", false)
def tyX2 : Nat → FieldType := fun k => match k with
  | 0 => .array .int
  | 1 => .array .int
  | 2 => .array .int
  | 3 => .array .int
  | 4 => .int
  | _ => .int
abbrev wsX20 : List Cond := u_ws RX2 TX2 6
theorem nmX2 : ∀ a, a < 6 → ∀ b, b < 6 → a ≠ b → (TX2 a).2.1 ≠ (TX2 b).2.1 := by decide +kernel
theorem tyX2_ok : ∀ k, k < 6 → parseFieldDescriptor (TX2 k).2.2.1 = some (tyX2 k) := by decide +kernel
abbrev cX2_init : ByteArray := prog_4_method_1_code
def yX2_init : MethodName := ⟨RX2, "<init>", "()V"⟩
abbrev cX2_size : ByteArray := prog_4_method_2_code
def yX2_size : MethodName := ⟨RX2, "size", "()I"⟩
abbrev cX2_winces : ByteArray := prog_4_method_3_code
def yX2_winces : MethodName := ⟨RX2, "winces", "()I"⟩
abbrev cX2_gather : ByteArray := prog_4_method_4_code
def yX2_gather : MethodName := ⟨RX2, "gather", "(I)V"⟩
abbrev cX2_add : ByteArray := prog_4_method_5_code
def yX2_add : MethodName := ⟨RX2, "add", "(II)I"⟩
abbrev cX2_copyFrom : ByteArray := prog_4_method_6_code
def yX2_copyFrom : MethodName := ⟨RX2, "copyFrom", "(LFeltByTwin$Crowd;)V"⟩
abbrev cX2_survey : ByteArray := prog_4_method_7_code
def yX2_survey : MethodName := ⟨RX2, "survey", "()I"⟩
abbrev cX2_onlyTwin : ByteArray := prog_4_method_8_code
def yX2_onlyTwin : MethodName := ⟨RX2, "onlyTwin", "(I)I"⟩
abbrev cX2_pairUp : ByteArray := prog_4_method_9_code
def yX2_pairUp : MethodName := ⟨RX2, "pairUp", "(II)I"⟩
abbrev cX2_mayBeTwins : ByteArray := prog_4_method_10_code
def yX2_mayBeTwins : MethodName := ⟨RX2, "mayBeTwins", "(II)Z"⟩
abbrev cX2_firstOf : ByteArray := prog_4_method_11_code
def yX2_firstOf : MethodName := ⟨RX2, "firstOf", "(I)I"⟩
def RX3 : String := "FeltByTwin$Image"
def TX3 : u_T := fun k => match k with
  | 0 => ("FeltByTwin$Image", "touches", "LFeltByTwin$Touches;", true)
  | 1 => ("FeltByTwin$Image", "towns", "[I", true)
  | 2 => ("FeltByTwin$Image", "book", "LFeltByTwin$Book;", true)
  | 3 => ("FeltByTwin$Image", "crowd", "LFeltByTwin$Crowd;", true)
  | _ => ("FeltByTwin$Image", "isGood", "Z", false)
def tyX3 : Nat → FieldType := fun k => match k with
  | 0 => .object "FeltByTwin$Touches"
  | 1 => .array .int
  | 2 => .object "FeltByTwin$Book"
  | 3 => .object "FeltByTwin$Crowd"
  | _ => .boolean
abbrev wsX30 : List Cond := u_ws RX3 TX3 5
theorem nmX3 : ∀ a, a < 5 → ∀ b, b < 5 → a ≠ b → (TX3 a).2.1 ≠ (TX3 b).2.1 := by decide +kernel
theorem tyX3_ok : ∀ k, k < 5 → parseFieldDescriptor (TX3 k).2.2.1 = some (tyX3 k) := by decide +kernel
abbrev cX3_init : ByteArray := prog_5_method_1_code
def yX3_init : MethodName := ⟨RX3, "<init>", "()V"⟩
abbrev cX3_isGood : ByteArray := prog_5_method_2_code
def yX3_isGood : MethodName := ⟨RX3, "isGood", "()Z"⟩
abbrev cX3_spoil : ByteArray := prog_5_method_3_code
def yX3_spoil : MethodName := ⟨RX3, "spoil", "()V"⟩
abbrev cX3_keep : ByteArray := prog_5_method_4_code
def yX3_keep : MethodName := ⟨RX3, "keep", "(LFeltByTwin$Touches;[ILFeltByTwin$Book;LFeltByTwin$Crowd;)V"⟩
abbrev cX3_giveBack : ByteArray := prog_5_method_5_code
def yX3_giveBack : MethodName := ⟨RX3, "giveBack", "(LFeltByTwin$Touches;[ILFeltByTwin$Book;LFeltByTwin$Crowd;)V"⟩
def RX4 : String := "FeltByTwin$News"
def TX4 : u_T := fun k => match k with
  | 0 => ("FeltByTwin$News", "roadMinutes", "[I", true)
  | 1 => ("FeltByTwin$News", "ways", "LFeltByTwin$Ways;", true)
  | 2 => ("FeltByTwin$News", "withOne", "LFeltByTwin$Ways;", true)
  | _ => ("FeltByTwin$News", "pairTowns", "[I", true)
def tyX4 : Nat → FieldType := fun k => match k with
  | 0 => .array .int
  | 1 => .object "FeltByTwin$Ways"
  | 2 => .object "FeltByTwin$Ways"
  | _ => .array .int
abbrev wsX40 : List Cond := u_ws RX4 TX4 4
theorem nmX4 : ∀ a, a < 4 → ∀ b, b < 4 → a ≠ b → (TX4 a).2.1 ≠ (TX4 b).2.1 := by decide +kernel
theorem tyX4_ok : ∀ k, k < 4 → parseFieldDescriptor (TX4 k).2.2.1 = some (tyX4 k) := by decide +kernel
abbrev cX4_init : ByteArray := prog_6_method_1_code
def yX4_init : MethodName := ⟨RX4, "<init>", "()V"⟩
abbrev cX4_setRoad : ByteArray := prog_6_method_2_code
def yX4_setRoad : MethodName := ⟨RX4, "setRoad", "(III)I"⟩
abbrev cX4_roads : ByteArray := prog_6_method_3_code
def yX4_roads : MethodName := ⟨RX4, "roads", "()I"⟩
abbrev cX4_reckon : ByteArray := prog_6_method_4_code
def yX4_reckon : MethodName := ⟨RX4, "reckon", "(LFeltByTwin$Register;[II)V"⟩
abbrev cX4_addPinches : ByteArray := prog_6_method_5_code
def yX4_addPinches : MethodName := ⟨RX4, "addPinches", "(LFeltByTwin$Birth;[I)V"⟩
abbrev cX4_minutesBetween : ByteArray := prog_6_method_6_code
def yX4_minutesBetween : MethodName := ⟨RX4, "minutesBetween", "(II)I"⟩
abbrev cX4_townOfPairs : ByteArray := prog_6_method_7_code
def yX4_townOfPairs : MethodName := ⟨RX4, "townOfPairs", "(I)I"⟩
abbrev cX4_fewestPairs : ByteArray := prog_6_method_8_code
def yX4_fewestPairs : MethodName := ⟨RX4, "fewestPairs", "(I)I"⟩
abbrev cX4_isWithinByOne : ByteArray := prog_6_method_9_code
def yX4_isWithinByOne : MethodName := ⟨RX4, "isWithinByOne", "(I)Z"⟩
abbrev cX4_isWithinByTwo : ByteArray := prog_6_method_10_code
def yX4_isWithinByTwo : MethodName := ⟨RX4, "isWithinByTwo", "(I)Z"⟩
abbrev cX4_notePair : ByteArray := prog_6_method_11_code
def yX4_notePair : MethodName := ⟨RX4, "notePair", "(II)V"⟩
def RX5 : String := "FeltByTwin$Page"
def TX5 : u_T := fun k => match k with
  | 0 => ("FeltByTwin$Page", "codes", "[I", true)
  | _ => ("FeltByTwin$Page", "many", "I", false)
def tyX5 : Nat → FieldType := fun k => match k with
  | 0 => .array .int
  | _ => .int
abbrev wsX50 : List Cond := u_ws RX5 TX5 2
theorem nmX5 : ∀ a, a < 2 → ∀ b, b < 2 → a ≠ b → (TX5 a).2.1 ≠ (TX5 b).2.1 := by decide +kernel
theorem tyX5_ok : ∀ k, k < 2 → parseFieldDescriptor (TX5 k).2.2.1 = some (tyX5 k) := by decide +kernel
abbrev cX5_init : ByteArray := prog_7_method_1_code
def yX5_init : MethodName := ⟨RX5, "<init>", "()V"⟩
abbrev cX5_size : ByteArray := prog_7_method_2_code
def yX5_size : MethodName := ⟨RX5, "size", "()I"⟩
abbrev cX5_at : ByteArray := prog_7_method_3_code
def yX5_at : MethodName := ⟨RX5, "at", "(I)I"⟩
abbrev cX5_clear : ByteArray := prog_7_method_4_code
def yX5_clear : MethodName := ⟨RX5, "clear", "()V"⟩
abbrev cX5_write : ByteArray := prog_7_method_5_code
def yX5_write : MethodName := ⟨RX5, "write", "(J)I"⟩
abbrev cX5_lettersIn : ByteArray := prog_7_method_6_code
def yX5_lettersIn : MethodName := ⟨RX5, "lettersIn", "(J)I"⟩
abbrev cX5_byteOf : ByteArray := prog_7_method_7_code
def yX5_byteOf : MethodName := ⟨RX5, "byteOf", "(JI)I"⟩
def RX6 : String := "FeltByTwin$Register"
def TX6 : u_T := fun k => match k with
  | 0 => ("FeltByTwin$Register", "births", "[LFeltByTwin$Birth;", true)
  | 1 => ("FeltByTwin$Register", "birthOf", "[I", true)
  | _ => ("FeltByTwin$Register", "many", "I", false)
def tyX6 : Nat → FieldType := fun k => match k with
  | 0 => .array (.object "FeltByTwin$Birth")
  | 1 => .array .int
  | _ => .int
abbrev wsX60 : List Cond := u_ws RX6 TX6 3
theorem nmX6 : ∀ a, a < 3 → ∀ b, b < 3 → a ≠ b → (TX6 a).2.1 ≠ (TX6 b).2.1 := by decide +kernel
theorem tyX6_ok : ∀ k, k < 3 → parseFieldDescriptor (TX6 k).2.2.1 = some (tyX6 k) := by decide +kernel
abbrev cX6_init : ByteArray := prog_8_method_1_code
def yX6_init : MethodName := ⟨RX6, "<init>", "()V"⟩
abbrev cX6_readFrom : ByteArray := prog_8_method_2_code
def yX6_readFrom : MethodName := ⟨RX6, "readFrom", "(LFeltByTwin$Page;)I"⟩
abbrev cX6_isWhole : ByteArray := prog_8_method_3_code
def yX6_isWhole : MethodName := ⟨RX6, "isWhole", "()Z"⟩
abbrev cX6_size : ByteArray := prog_8_method_4_code
def yX6_size : MethodName := ⟨RX6, "size", "()I"⟩
abbrev cX6_find : ByteArray := prog_8_method_5_code
def yX6_find : MethodName := ⟨RX6, "find", "(I)LFeltByTwin$Birth;"⟩
abbrev cX6_birthOf : ByteArray := prog_8_method_6_code
def yX6_birthOf : MethodName := ⟨RX6, "birthOf", "(I)I"⟩
abbrev cX6_tenthsOf : ByteArray := prog_8_method_7_code
def yX6_tenthsOf : MethodName := ⟨RX6, "tenthsOf", "(I)I"⟩
abbrev cX6_delay : ByteArray := prog_8_method_8_code
def yX6_delay : MethodName := ⟨RX6, "delay", "(II)I"⟩
abbrev cX6_beginBirth : ByteArray := prog_8_method_9_code
def yX6_beginBirth : MethodName := ⟨RX6, "beginBirth", "()Z"⟩
abbrev cX6_take : ByteArray := prog_8_method_10_code
def yX6_take : MethodName := ⟨RX6, "take", "(I)Z"⟩
abbrev cX6_takeDigit : ByteArray := prog_8_method_11_code
def yX6_takeDigit : MethodName := ⟨RX6, "takeDigit", "(LFeltByTwin$Birth;I)Z"⟩
def RX7 : String := "FeltByTwin$Rows"
def TX7 : u_T := fun k => match k with
  | 0 => ("FeltByTwin$Rows", "alike", "[I", true)
  | 1 => ("FeltByTwin$Rows", "bestMany", "I", false)
  | _ => ("FeltByTwin$Rows", "bestSet", "I", false)
def tyX7 : Nat → FieldType := fun k => match k with
  | 0 => .array .int
  | 1 => .int
  | _ => .int
abbrev wsX70 : List Cond := u_ws RX7 TX7 3
theorem nmX7 : ∀ a, a < 3 → ∀ b, b < 3 → a ≠ b → (TX7 a).2.1 ≠ (TX7 b).2.1 := by decide +kernel
theorem tyX7_ok : ∀ k, k < 3 → parseFieldDescriptor (TX7 k).2.2.1 = some (tyX7 k) := by decide +kernel
abbrev cX7_init : ByteArray := prog_9_method_1_code
def yX7_init : MethodName := ⟨RX7, "<init>", "()V"⟩
abbrev cX7_most : ByteArray := prog_9_method_2_code
def yX7_most : MethodName := ⟨RX7, "most", "()I"⟩
abbrev cX7_firstSet : ByteArray := prog_9_method_3_code
def yX7_firstSet : MethodName := ⟨RX7, "firstSet", "()I"⟩
abbrev cX7_search : ByteArray := prog_9_method_4_code
def yX7_search : MethodName := ⟨RX7, "search", "(II)V"⟩
abbrev cX7_rowsLike : ByteArray := prog_9_method_5_code
def yX7_rowsLike : MethodName := ⟨RX7, "rowsLike", "(III)I"⟩
abbrev cX7_choose : ByteArray := prog_9_method_6_code
def yX7_choose : MethodName := ⟨RX7, "choose", "(IIII)V"⟩
def RX8 : String := "FeltByTwin$Touches"
def TX8 : u_T := fun k => match k with
  | 0 => ("FeltByTwin$Touches", "who", "[I", true)
  | 1 => ("FeltByTwin$Touches", "when", "[I", true)
  | 2 => ("FeltByTwin$Touches", "tally", "[I", true)
  | _ => ("FeltByTwin$Touches", "many", "I", false)
def tyX8 : Nat → FieldType := fun k => match k with
  | 0 => .array .int
  | 1 => .array .int
  | 2 => .array .int
  | _ => .int
abbrev wsX80 : List Cond := u_ws RX8 TX8 4
theorem nmX8 : ∀ a, a < 4 → ∀ b, b < 4 → a ≠ b → (TX8 a).2.1 ≠ (TX8 b).2.1 := by decide +kernel
theorem tyX8_ok : ∀ k, k < 4 → parseFieldDescriptor (TX8 k).2.2.1 = some (tyX8 k) := by decide +kernel
abbrev cX8_init : ByteArray := prog_10_method_1_code
def yX8_init : MethodName := ⟨RX8, "<init>", "()V"⟩
abbrev cX8_size : ByteArray := prog_10_method_2_code
def yX8_size : MethodName := ⟨RX8, "size", "()I"⟩
abbrev cX8_clear : ByteArray := prog_10_method_3_code
def yX8_clear : MethodName := ⟨RX8, "clear", "()V"⟩
abbrev cX8_add : ByteArray := prog_10_method_4_code
def yX8_add : MethodName := ⟨RX8, "add", "(II)I"⟩
abbrev cX8_copyFrom : ByteArray := prog_10_method_5_code
def yX8_copyFrom : MethodName := ⟨RX8, "copyFrom", "(LFeltByTwin$Touches;)V"⟩
abbrev cX8_ofPerson : ByteArray := prog_10_method_6_code
def yX8_ofPerson : MethodName := ⟨RX8, "ofPerson", "(I)I"⟩
abbrev cX8_timesFelt : ByteArray := prog_10_method_7_code
def yX8_timesFelt : MethodName := ⟨RX8, "timesFelt", "(LFeltByTwin$Register;III)I"⟩
abbrev cX8_firstOver : ByteArray := prog_10_method_8_code
def yX8_firstOver : MethodName := ⟨RX8, "firstOver", "(LFeltByTwin$Register;)I"⟩
abbrev cX8_isOverBehind : ByteArray := prog_10_method_9_code
def yX8_isOverBehind : MethodName := ⟨RX8, "isOverBehind", "(LFeltByTwin$Register;II)Z"⟩
abbrev cX8_talliedFor : ByteArray := prog_10_method_10_code
def yX8_talliedFor : MethodName := ⟨RX8, "talliedFor", "(II)I"⟩
def RX9 : String := "FeltByTwin$Ways"
def TX9 : u_T := fun k => match k with
  | _ => ("FeltByTwin$Ways", "minutes", "[I", true)
def tyX9 : Nat → FieldType := fun k => match k with
  | _ => .array .int
abbrev wsX90 : List Cond := u_ws RX9 TX9 1
theorem nmX9 : ∀ a, a < 1 → ∀ b, b < 1 → a ≠ b → (TX9 a).2.1 ≠ (TX9 b).2.1 := by decide +kernel
theorem tyX9_ok : ∀ k, k < 1 → parseFieldDescriptor (TX9 k).2.2.1 = some (tyX9 k) := by decide +kernel
abbrev cX9_init : ByteArray := prog_11_method_1_code
def yX9_init : MethodName := ⟨RX9, "<init>", "()V"⟩
abbrev cX9_between : ByteArray := prog_11_method_2_code
def yX9_between : MethodName := ⟨RX9, "between", "(II)I"⟩
abbrev cX9_clear : ByteArray := prog_11_method_3_code
def yX9_clear : MethodName := ⟨RX9, "clear", "()V"⟩
abbrev cX9_shorten : ByteArray := prog_11_method_4_code
def yX9_shorten : MethodName := ⟨RX9, "shorten", "(III)V"⟩
abbrev cX9_joinWays : ByteArray := prog_11_method_5_code
def yX9_joinWays : MethodName := ⟨RX9, "joinWays", "()V"⟩
abbrev cX9_joinThrough : ByteArray := prog_11_method_6_code
def yX9_joinThrough : MethodName := ⟨RX9, "joinThrough", "(II)V"⟩
abbrev cX9_takeWithBond : ByteArray := prog_11_method_7_code
def yX9_takeWithBond : MethodName := ⟨RX9, "takeWithBond", "(LFeltByTwin$Ways;II)V"⟩
abbrev cX9_areWithin : ByteArray := prog_11_method_8_code
def yX9_areWithin : MethodName := ⟨RX9, "areWithin", "(I)Z"⟩
abbrev cX9_areWithinWithBond : ByteArray := prog_11_method_9_code
def yX9_areWithinWithBond : MethodName := ⟨RX9, "areWithinWithBond", "(III)Z"⟩
abbrev cX9_betweenWithBond : ByteArray := prog_11_method_10_code
def yX9_betweenWithBond : MethodName := ⟨RX9, "betweenWithBond", "(IIII)I"⟩
def RX10 : String := "FeltByTwin"
def TX10 : u_T := fun k => match k with
  | 0 => ("FeltByTwin", "page", "LFeltByTwin$Page;", true)
  | 1 => ("FeltByTwin", "touches", "LFeltByTwin$Touches;", true)
  | 2 => ("FeltByTwin", "news", "LFeltByTwin$News;", true)
  | 3 => ("FeltByTwin", "book", "LFeltByTwin$Book;", true)
  | 4 => ("FeltByTwin", "crowd", "LFeltByTwin$Crowd;", true)
  | 5 => ("FeltByTwin", "rows", "LFeltByTwin$Rows;", true)
  | 6 => ("FeltByTwin", "image", "LFeltByTwin$Image;", true)
  | 7 => ("FeltByTwin", "towns", "[I", true)
  | 8 => ("FeltByTwin", "register", "LFeltByTwin$Register;", false)
  | 9 => ("FeltByTwin", "draft", "LFeltByTwin$Register;", false)
  | 10 => ("FeltByTwin", "timesRead", "I", false)
  | _ => ("FeltByTwin", "timesKept", "I", false)
def tyX10 : Nat → FieldType := fun k => match k with
  | 0 => .object "FeltByTwin$Page"
  | 1 => .object "FeltByTwin$Touches"
  | 2 => .object "FeltByTwin$News"
  | 3 => .object "FeltByTwin$Book"
  | 4 => .object "FeltByTwin$Crowd"
  | 5 => .object "FeltByTwin$Rows"
  | 6 => .object "FeltByTwin$Image"
  | 7 => .array .int
  | 8 => .object "FeltByTwin$Register"
  | 9 => .object "FeltByTwin$Register"
  | 10 => .int
  | _ => .int
abbrev wsX100 : List Cond := u_ws RX10 TX10 12
theorem nmX10 : ∀ a, a < 12 → ∀ b, b < 12 → a ≠ b → (TX10 a).2.1 ≠ (TX10 b).2.1 := by decide +kernel
theorem tyX10_ok : ∀ k, k < 12 → parseFieldDescriptor (TX10 k).2.2.1 = some (tyX10 k) := by decide +kernel
abbrev cX10_init : ByteArray := prog_1_method_1_code
def yX10_init : MethodName := ⟨RX10, "<init>", "()V"⟩
abbrev cX10_road : ByteArray := prog_1_method_2_code
def yX10_road : MethodName := ⟨RX10, "road", "(III)I"⟩
abbrev cX10_town : ByteArray := prog_1_method_3_code
def yX10_town : MethodName := ⟨RX10, "town", "(II)I"⟩
abbrev cX10_letters : ByteArray := prog_1_method_4_code
def yX10_letters : MethodName := ⟨RX10, "letters", "(J)I"⟩
abbrev cX10_blank : ByteArray := prog_1_method_5_code
def yX10_blank : MethodName := ⟨RX10, "blank", "()I"⟩
abbrev cX10_fault : ByteArray := prog_1_method_6_code
def yX10_fault : MethodName := ⟨RX10, "fault", "()I"⟩
abbrev cX10_births : ByteArray := prog_1_method_7_code
def yX10_births : MethodName := ⟨RX10, "births", "()I"⟩
abbrev cX10_birth : ByteArray := prog_1_method_8_code
def yX10_birth : MethodName := ⟨RX10, "birth", "(II)I"⟩
abbrev cX10_as : ByteArray := prog_1_method_9_code
def yX10_as : MethodName := ⟨RX10, "as", "(II)I"⟩
abbrev cX10_about : ByteArray := prog_1_method_10_code
def yX10_about : MethodName := ⟨RX10, "about", "(II)I"⟩
abbrev cX10_touch : ByteArray := prog_1_method_11_code
def yX10_touch : MethodName := ⟨RX10, "touch", "(II)I"⟩
abbrev cX10_forget : ByteArray := prog_1_method_12_code
def yX10_forget : MethodName := ⟨RX10, "forget", "()I"⟩
abbrev cX10_felt : ByteArray := prog_1_method_13_code
def yX10_felt : MethodName := ⟨RX10, "felt", "(III)I"⟩
abbrev cX10_surely : ByteArray := prog_1_method_14_code
def yX10_surely : MethodName := ⟨RX10, "surely", "(IIII)J"⟩
abbrev cX10_over : ByteArray := prog_1_method_15_code
def yX10_over : MethodName := ⟨RX10, "over", "()I"⟩
abbrev cX10_soonest : ByteArray := prog_1_method_16_code
def yX10_soonest : MethodName := ⟨RX10, "soonest", "(II)I"⟩
abbrev cX10_unseen : ByteArray := prog_1_method_17_code
def yX10_unseen : MethodName := ⟨RX10, "unseen", "(III)I"⟩
abbrev cX10_kept : ByteArray := prog_1_method_18_code
def yX10_kept : MethodName := ⟨RX10, "kept", "(II)I"⟩
abbrev cX10_words : ByteArray := prog_1_method_19_code
def yX10_words : MethodName := ⟨RX10, "words", "(III)I"⟩
abbrev cX10_least : ByteArray := prog_1_method_20_code
def yX10_least : MethodName := ⟨RX10, "least", "(III)I"⟩
abbrev cX10_missed : ByteArray := prog_1_method_21_code
def yX10_missed : MethodName := ⟨RX10, "missed", "(III)I"⟩
abbrev cX10_book : ByteArray := prog_1_method_22_code
def yX10_book : MethodName := ⟨RX10, "book", "(I)I"⟩
abbrev cX10_read : ByteArray := prog_1_method_23_code
def yX10_read : MethodName := ⟨RX10, "read", "(IIII)J"⟩
abbrev cX10_crowd : ByteArray := prog_1_method_24_code
def yX10_crowd : MethodName := ⟨RX10, "crowd", "(I)I"⟩
abbrev cX10_wince : ByteArray := prog_1_method_25_code
def yX10_wince : MethodName := ⟨RX10, "wince", "(II)I"⟩
abbrev cX10_pairings : ByteArray := prog_1_method_26_code
def yX10_pairings : MethodName := ⟨RX10, "pairings", "()I"⟩
abbrev cX10_twin : ByteArray := prog_1_method_27_code
def yX10_twin : MethodName := ⟨RX10, "twin", "(I)I"⟩
abbrev cX10_round : ByteArray := prog_1_method_28_code
def yX10_round : MethodName := ⟨RX10, "round", "(III)J"⟩
abbrev cX10_image : ByteArray := prog_1_method_29_code
def yX10_image : MethodName := ⟨RX10, "image", "()I"⟩
abbrev cX10_restore : ByteArray := prog_1_method_30_code
def yX10_restore : MethodName := ⟨RX10, "restore", "()I"⟩
abbrev cX10_count : ByteArray := prog_1_method_31_code
def yX10_count : MethodName := ⟨RX10, "count", "(I)I"⟩
abbrev cX10_digest : ByteArray := prog_1_method_32_code
def yX10_digest : MethodName := ⟨RX10, "digest", "()J"⟩
abbrev cX10_mixBirths : ByteArray := prog_1_method_33_code
def yX10_mixBirths : MethodName := ⟨RX10, "mixBirths", "(J)J"⟩
abbrev cX10_mixPeople : ByteArray := prog_1_method_34_code
def yX10_mixPeople : MethodName := ⟨RX10, "mixPeople", "(J)J"⟩
abbrev cX10_mixNews : ByteArray := prog_1_method_35_code
def yX10_mixNews : MethodName := ⟨RX10, "mixNews", "(J)J"⟩
abbrev cX10_mixBook : ByteArray := prog_1_method_36_code
def yX10_mixBook : MethodName := ⟨RX10, "mixBook", "(J)J"⟩
abbrev cX10_mixCrowd : ByteArray := prog_1_method_37_code
def yX10_mixCrowd : MethodName := ⟨RX10, "mixCrowd", "(J)J"⟩
abbrev cX10_mixPage : ByteArray := prog_1_method_38_code
def yX10_mixPage : MethodName := ⟨RX10, "mixPage", "(J)J"⟩
abbrev cX10_mix : ByteArray := prog_1_method_39_code
def yX10_mix : MethodName := ⟨RX10, "mix", "(JJ)J"⟩
abbrev cX10_isWithin : ByteArray := prog_1_method_40_code
def yX10_isWithin : MethodName := ⟨RX10, "isWithin", "(III)Z"⟩
abbrev cX10_isPerson : ByteArray := prog_1_method_41_code
def yX10_isPerson : MethodName := ⟨RX10, "isPerson", "(I)Z"⟩
abbrev cX10_isTown : ByteArray := prog_1_method_42_code
def yX10_isTown : MethodName := ⟨RX10, "isTown", "(I)Z"⟩
abbrev cX10_isSpan : ByteArray := prog_1_method_43_code
def yX10_isSpan : MethodName := ⟨RX10, "isSpan", "(II)Z"⟩
abbrev cX10_isPart : ByteArray := prog_1_method_44_code
def yX10_isPart : MethodName := ⟨RX10, "isPart", "(I)Z"⟩
abbrev cX10_isOdds : ByteArray := prog_1_method_45_code
def yX10_isOdds : MethodName := ⟨RX10, "isOdds", "(I)Z"⟩
abbrev cX10_isSetOf : ByteArray := prog_1_method_46_code
def yX10_isSetOf : MethodName := ⟨RX10, "isSetOf", "(II)Z"⟩
abbrev cX10_arePinches : ByteArray := prog_1_method_47_code
def yX10_arePinches : MethodName := ⟨RX10, "arePinches", "(II)Z"⟩
abbrev cX10_isIn : ByteArray := prog_1_method_48_code
def yX10_isIn : MethodName := ⟨RX10, "isIn", "(II)Z"⟩
abbrev cX10_wordsOf : ByteArray := prog_1_method_49_code
def yX10_wordsOf : MethodName := ⟨RX10, "wordsOf", "(III)I"⟩
abbrev cX10_power : ByteArray := prog_1_method_50_code
def yX10_power : MethodName := ⟨RX10, "power", "(JI)J"⟩
abbrev cX10_inLowestTerms : ByteArray := prog_1_method_51_code
def yX10_inLowestTerms : MethodName := ⟨RX10, "inLowestTerms", "(JJI)J"⟩
abbrev cX10_commonDivisor : ByteArray := prog_1_method_52_code
def yX10_commonDivisor : MethodName := ⟨RX10, "commonDivisor", "(JJ)J"⟩
def RX11 : String := "FeltByTwinModel"
def TX11 : u_T := fun k => match k with
  | 0 => ("FeltByTwinModel", "roads", "[I", true)
  | 1 => ("FeltByTwinModel", "towns", "[I", true)
  | 2 => ("FeltByTwinModel", "page", "[I", true)
  | 3 => ("FeltByTwinModel", "pageMany", "I", false)
  | 4 => ("FeltByTwinModel", "readMany", "I", false)
  | 5 => ("FeltByTwinModel", "readSeen", "I", false)
  | 6 => ("FeltByTwinModel", "state", "I", false)
  | 7 => ("FeltByTwinModel", "readRows", "[I", true)
  | 8 => ("FeltByTwinModel", "births", "I", false)
  | 9 => ("FeltByTwinModel", "birthsRead", "I", false)
  | 10 => ("FeltByTwinModel", "birthRows", "[I", true)
  | 11 => ("FeltByTwinModel", "birthOf", "[I", true)
  | 12 => ("FeltByTwinModel", "touches", "I", false)
  | 13 => ("FeltByTwinModel", "touchRows", "[I", true)
  | 14 => ("FeltByTwinModel", "ways", "[I", true)
  | 15 => ("FeltByTwinModel", "done", "I", false)
  | 16 => ("FeltByTwinModel", "alike", "[I", true)
  | 17 => ("FeltByTwinModel", "bookMany", "I", false)
  | 18 => ("FeltByTwinModel", "book", "[I", true)
  | 19 => ("FeltByTwinModel", "crowdNow", "I", false)
  | 20 => ("FeltByTwinModel", "crowdsTold", "I", false)
  | 21 => ("FeltByTwinModel", "winces", "I", false)
  | 22 => ("FeltByTwinModel", "winceRows", "[I", true)
  | 23 => ("FeltByTwinModel", "twins", "[I", true)
  | 24 => ("FeltByTwinModel", "twinsIn", "[I", true)
  | 25 => ("FeltByTwinModel", "kept", "I", false)
  | 26 => ("FeltByTwinModel", "keptBirths", "I", false)
  | 27 => ("FeltByTwinModel", "keptCrowds", "I", false)
  | 28 => ("FeltByTwinModel", "keptBook", "I", false)
  | 29 => ("FeltByTwinModel", "keptWinces", "I", false)
  | 30 => ("FeltByTwinModel", "keptTouches", "[I", true)
  | 31 => ("FeltByTwinModel", "keptTowns", "[I", true)
  | 32 => ("FeltByTwinModel", "keptWords", "[I", true)
  | 33 => ("FeltByTwinModel", "keptRows", "[I", true)
  | _ => ("FeltByTwinModel", "hash", "J", false)
def tyX11 : Nat → FieldType := fun k => match k with
  | 0 => .array .int
  | 1 => .array .int
  | 2 => .array .int
  | 3 => .int
  | 4 => .int
  | 5 => .int
  | 6 => .int
  | 7 => .array .int
  | 8 => .int
  | 9 => .int
  | 10 => .array .int
  | 11 => .array .int
  | 12 => .int
  | 13 => .array .int
  | 14 => .array .int
  | 15 => .int
  | 16 => .array .int
  | 17 => .int
  | 18 => .array .int
  | 19 => .int
  | 20 => .int
  | 21 => .int
  | 22 => .array .int
  | 23 => .array .int
  | 24 => .array .int
  | 25 => .int
  | 26 => .int
  | 27 => .int
  | 28 => .int
  | 29 => .int
  | 30 => .array .int
  | 31 => .array .int
  | 32 => .array .int
  | 33 => .array .int
  | _ => .long
abbrev wsX110 : List Cond := u_ws RX11 TX11 35
theorem nmX11 : ∀ a, a < 35 → ∀ b, b < 35 → a ≠ b → (TX11 a).2.1 ≠ (TX11 b).2.1 := by decide +kernel
theorem tyX11_ok : ∀ k, k < 35 → parseFieldDescriptor (TX11 k).2.2.1 = some (tyX11 k) := by decide +kernel
abbrev cX11_init : ByteArray := prog_13_method_1_code
def yX11_init : MethodName := ⟨RX11, "<init>", "()V"⟩
abbrev cX11_in : ByteArray := prog_13_method_2_code
def yX11_in : MethodName := ⟨RX11, "in", "(JJJ)Z"⟩
abbrev cX11_isTown : ByteArray := prog_13_method_3_code
def yX11_isTown : MethodName := ⟨RX11, "isTown", "(I)Z"⟩
abbrev cX11_isPerson : ByteArray := prog_13_method_4_code
def yX11_isPerson : MethodName := ⟨RX11, "isPerson", "(I)Z"⟩
abbrev cX11_road : ByteArray := prog_13_method_5_code
def yX11_road : MethodName := ⟨RX11, "road", "(III)I"⟩
abbrev cX11_town : ByteArray := prog_13_method_6_code
def yX11_town : MethodName := ⟨RX11, "town", "(II)I"⟩
abbrev cX11_letters : ByteArray := prog_13_method_7_code
def yX11_letters : MethodName := ⟨RX11, "letters", "(J)I"⟩
abbrev cX11_blank : ByteArray := prog_13_method_8_code
def yX11_blank : MethodName := ⟨RX11, "blank", "()I"⟩
abbrev cX11_goPerson : ByteArray := prog_13_method_9_code
def yX11_goPerson : MethodName := ⟨RX11, "goPerson", "(I)Z"⟩
abbrev cX11_isBirth : ByteArray := prog_13_method_10_code
def yX11_isBirth : MethodName := ⟨RX11, "isBirth", "()Z"⟩
abbrev cX11_go : ByteArray := prog_13_method_11_code
def yX11_go : MethodName := ⟨RX11, "go", "(I)Z"⟩
abbrev cX11_faultOf : ByteArray := prog_13_method_12_code
def yX11_faultOf : MethodName := ⟨RX11, "faultOf", "()I"⟩
abbrev cX11_fault : ByteArray := prog_13_method_13_code
def yX11_fault : MethodName := ⟨RX11, "fault", "()I"⟩
abbrev cX11_births : ByteArray := prog_13_method_14_code
def yX11_births : MethodName := ⟨RX11, "births", "()I"⟩
abbrev cX11_birth : ByteArray := prog_13_method_15_code
def yX11_birth : MethodName := ⟨RX11, "birth", "(II)I"⟩
abbrev cX11_as : ByteArray := prog_13_method_16_code
def yX11_as : MethodName := ⟨RX11, "as", "(II)I"⟩
abbrev cX11_touchedBy : ByteArray := prog_13_method_17_code
def yX11_touchedBy : MethodName := ⟨RX11, "touchedBy", "(II)I"⟩
abbrev cX11_tellPerson : ByteArray := prog_13_method_18_code
def yX11_tellPerson : MethodName := ⟨RX11, "tellPerson", "(II)I"⟩
abbrev cX11_about : ByteArray := prog_13_method_19_code
def yX11_about : MethodName := ⟨RX11, "about", "(II)I"⟩
abbrev cX11_touch : ByteArray := prog_13_method_20_code
def yX11_touch : MethodName := ⟨RX11, "touch", "(II)I"⟩
abbrev cX11_forget : ByteArray := prog_13_method_21_code
def yX11_forget : MethodName := ⟨RX11, "forget", "()I"⟩
abbrev cX11_placeIn : ByteArray := prog_13_method_22_code
def yX11_placeIn : MethodName := ⟨RX11, "placeIn", "(II)I"⟩
abbrev cX11_lateBy : ByteArray := prog_13_method_23_code
def yX11_lateBy : MethodName := ⟨RX11, "lateBy", "(II)I"⟩
abbrev cX11_feltOf : ByteArray := prog_13_method_24_code
def yX11_feltOf : MethodName := ⟨RX11, "feltOf", "(IIII)I"⟩
abbrev cX11_areMinutes : ByteArray := prog_13_method_25_code
def yX11_areMinutes : MethodName := ⟨RX11, "areMinutes", "(II)Z"⟩
abbrev cX11_felt : ByteArray := prog_13_method_26_code
def yX11_felt : MethodName := ⟨RX11, "felt", "(III)I"⟩
abbrev cX11_term : ByteArray := prog_13_method_27_code
def yX11_term : MethodName := ⟨RX11, "term", "(JJI)J"⟩
abbrev cX11_isPart : ByteArray := prog_13_method_28_code
def yX11_isPart : MethodName := ⟨RX11, "isPart", "(I)Z"⟩
abbrev cX11_surely : ByteArray := prog_13_method_29_code
def yX11_surely : MethodName := ⟨RX11, "surely", "(IIII)J"⟩
abbrev cX11_isOver : ByteArray := prog_13_method_30_code
def yX11_isOver : MethodName := ⟨RX11, "isOver", "(I)Z"⟩
abbrev cX11_overOf : ByteArray := prog_13_method_31_code
def yX11_overOf : MethodName := ⟨RX11, "overOf", "()I"⟩
abbrev cX11_over : ByteArray := prog_13_method_32_code
def yX11_over : MethodName := ⟨RX11, "over", "()I"⟩
abbrev cX11_mayCome : ByteArray := prog_13_method_33_code
def yX11_mayCome : MethodName := ⟨RX11, "mayCome", "(III)V"⟩
abbrev cX11_layTouch : ByteArray := prog_13_method_34_code
def yX11_layTouch : MethodName := ⟨RX11, "layTouch", "(II)V"⟩
abbrev cX11_layWays : ByteArray := prog_13_method_35_code
def yX11_layWays : MethodName := ⟨RX11, "layWays", "(I)V"⟩
abbrev cX11_closeWays : ByteArray := prog_13_method_36_code
def yX11_closeWays : MethodName := ⟨RX11, "closeWays", "()V"⟩
abbrev cX11_soonestNow : ByteArray := prog_13_method_37_code
def yX11_soonestNow : MethodName := ⟨RX11, "soonestNow", "(II)I"⟩
abbrev cX11_soonest : ByteArray := prog_13_method_38_code
def yX11_soonest : MethodName := ⟨RX11, "soonest", "(II)I"⟩
abbrev cX11_unseen : ByteArray := prog_13_method_39_code
def yX11_unseen : MethodName := ⟨RX11, "unseen", "(III)I"⟩
abbrev cX11_isSoon : ByteArray := prog_13_method_40_code
def yX11_isSoon : MethodName := ⟨RX11, "isSoon", "(III)Z"⟩
abbrev cX11_tellPairs : ByteArray := prog_13_method_41_code
def yX11_tellPairs : MethodName := ⟨RX11, "tellPairs", "(IIII)I"⟩
abbrev cX11_kept : ByteArray := prog_13_method_42_code
def yX11_kept : MethodName := ⟨RX11, "kept", "(II)I"⟩
abbrev cX11_areWords : ByteArray := prog_13_method_43_code
def yX11_areWords : MethodName := ⟨RX11, "areWords", "(II)Z"⟩
abbrev cX11_ones : ByteArray := prog_13_method_44_code
def yX11_ones : MethodName := ⟨RX11, "ones", "(I)I"⟩
abbrev cX11_manyWords : ByteArray := prog_13_method_45_code
def yX11_manyWords : MethodName := ⟨RX11, "manyWords", "(III)I"⟩
abbrev cX11_words : ByteArray := prog_13_method_46_code
def yX11_words : MethodName := ⟨RX11, "words", "(III)I"⟩
abbrev cX11_least : ByteArray := prog_13_method_47_code
def yX11_least : MethodName := ⟨RX11, "least", "(III)I"⟩
abbrev cX11_missed : ByteArray := prog_13_method_48_code
def yX11_missed : MethodName := ⟨RX11, "missed", "(III)I"⟩
abbrev cX11_book : ByteArray := prog_13_method_49_code
def yX11_book : MethodName := ⟨RX11, "book", "(I)I"⟩
abbrev cX11_likely : ByteArray := prog_13_method_50_code
def yX11_likely : MethodName := ⟨RX11, "likely", "(III)J"⟩
abbrev cX11_read : ByteArray := prog_13_method_51_code
def yX11_read : MethodName := ⟨RX11, "read", "(IIII)J"⟩
abbrev cX11_crowd : ByteArray := prog_13_method_52_code
def yX11_crowd : MethodName := ⟨RX11, "crowd", "(I)I"⟩
abbrev cX11_wince : ByteArray := prog_13_method_53_code
def yX11_wince : MethodName := ⟨RX11, "wince", "(II)I"⟩
abbrev cX11_layPairing : ByteArray := prog_13_method_54_code
def yX11_layPairing : MethodName := ⟨RX11, "layPairing", "(I)V"⟩
abbrev cX11_isSo : ByteArray := prog_13_method_55_code
def yX11_isSo : MethodName := ⟨RX11, "isSo", "()Z"⟩
abbrev cX11_pairingsOf : ByteArray := prog_13_method_56_code
def yX11_pairingsOf : MethodName := ⟨RX11, "pairingsOf", "()I"⟩
abbrev cX11_pairings : ByteArray := prog_13_method_57_code
def yX11_pairings : MethodName := ⟨RX11, "pairings", "()I"⟩
abbrev cX11_twinNow : ByteArray := prog_13_method_58_code
def yX11_twinNow : MethodName := ⟨RX11, "twinNow", "(I)I"⟩
abbrev cX11_twin : ByteArray := prog_13_method_59_code
def yX11_twin : MethodName := ⟨RX11, "twin", "(I)I"⟩
abbrev cX11_round : ByteArray := prog_13_method_60_code
def yX11_round : MethodName := ⟨RX11, "round", "(III)J"⟩
abbrev cX11_image : ByteArray := prog_13_method_61_code
def yX11_image : MethodName := ⟨RX11, "image", "()I"⟩
abbrev cX11_restore : ByteArray := prog_13_method_62_code
def yX11_restore : MethodName := ⟨RX11, "restore", "()I"⟩
abbrev cX11_roadMany : ByteArray := prog_13_method_63_code
def yX11_roadMany : MethodName := ⟨RX11, "roadMany", "()I"⟩
abbrev cX11_countOf : ByteArray := prog_13_method_64_code
def yX11_countOf : MethodName := ⟨RX11, "countOf", "(I)I"⟩
abbrev cX11_count : ByteArray := prog_13_method_65_code
def yX11_count : MethodName := ⟨RX11, "count", "(I)I"⟩
abbrev cX11_say : ByteArray := prog_13_method_66_code
def yX11_say : MethodName := ⟨RX11, "say", "(J)V"⟩
abbrev cX11_sayNews : ByteArray := prog_13_method_67_code
def yX11_sayNews : MethodName := ⟨RX11, "sayNews", "()V"⟩
abbrev cX11_digest : ByteArray := prog_13_method_68_code
def yX11_digest : MethodName := ⟨RX11, "digest", "()J"⟩
def RJ6 : String := "java/lang/Integer"
def TJ6 : u_T := fun k => match k with
  | _ => ("", "", "", false)
def tyJ6 : Nat → FieldType := fun k => match k with
  | _ => .int
abbrev wsJ60 : List Cond := u_ws RJ6 TJ6 0
theorem nmJ6 : ∀ a, a < 0 → ∀ b, b < 0 → a ≠ b → (TJ6 a).2.1 ≠ (TJ6 b).2.1 := by decide +kernel
theorem tyJ6_ok : ∀ k, k < 0 → parseFieldDescriptor (TJ6 k).2.2.1 = some (tyJ6 k) := by decide +kernel
abbrev cJ6_bitCount_0f7a4 : ByteArray := prog_14_method_49_code
def yJ6_bitCount_0f7a4 : MethodName := ⟨RJ6, "bitCount", "(I)I"⟩
def RJ9 : String := "java/lang/Math"
def TJ9 : u_T := fun k => match k with
  | _ => ("", "", "", false)
def tyJ9 : Nat → FieldType := fun k => match k with
  | _ => .int
abbrev wsJ90 : List Cond := u_ws RJ9 TJ9 0
theorem nmJ9 : ∀ a, a < 0 → ∀ b, b < 0 → a ≠ b → (TJ9 a).2.1 ≠ (TJ9 b).2.1 := by decide +kernel
theorem tyJ9_ok : ∀ k, k < 0 → parseFieldDescriptor (TJ9 k).2.2.1 = some (tyJ9 k) := by decide +kernel
abbrev cJ9_min_7cf53 : ByteArray := prog_15_method_69_code
def yJ9_min_7cf53 : MethodName := ⟨RJ9, "min", "(II)I"⟩
def RJ10 : String := "java/lang/System"
def TJ10 : u_T := fun k => match k with
  | _ => ("", "", "", false)
def tyJ10 : Nat → FieldType := fun k => match k with
  | _ => .int
abbrev wsJ100 : List Cond := u_ws RJ10 TJ10 0
theorem nmJ10 : ∀ a, a < 0 → ∀ b, b < 0 → a ≠ b → (TJ10 a).2.1 ≠ (TJ10 b).2.1 := by decide +kernel
theorem tyJ10_ok : ∀ k, k < 0 → parseFieldDescriptor (TJ10 k).2.2.1 = some (tyJ10 k) := by decide +kernel
def RJ7 : String := "java/util/Arrays"
def TJ7 : u_T := fun k => match k with
  | _ => ("", "", "", false)
def tyJ7 : Nat → FieldType := fun k => match k with
  | _ => .int
abbrev wsJ70 : List Cond := u_ws RJ7 TJ7 0
theorem nmJ7 : ∀ a, a < 0 → ∀ b, b < 0 → a ≠ b → (TJ7 a).2.1 ≠ (TJ7 b).2.1 := by decide +kernel
theorem tyJ7_ok : ∀ k, k < 0 → parseFieldDescriptor (TJ7 k).2.2.1 = some (tyJ7 k) := by decide +kernel
abbrev cJ7_fill_53178 : ByteArray := prog_17_method_103_code
def yJ7_fill_53178 : MethodName := ⟨RJ7, "fill", "([II)V"⟩
def RL : String := "FeltByTwinLaw"
abbrev cL_law : ByteArray := code
def yL_law : MethodName := ⟨RL, "law", "([I)Z"⟩
abbrev vwCl : List vw_C := [(RX0, TX0, 4), (RX1, TX1, 2), (RX2, TX2, 6), (RX3, TX3, 5), (RX4, TX4, 4), (RX5, TX5, 2), (RX6, TX6, 3), (RX7, TX7, 3), (RX8, TX8, 4), (RX9, TX9, 1), (RX10, TX10, 12), (RX11, TX11, 35)]
end
section
theorem dX0_init_0 : decode cX0_init 0 = .ok (.aload_n 0, 1) := by decide +kernel
theorem dX0_init_1 : decode cX0_init 1 = .ok (.invokespecial 3, 3) := by decide +kernel
theorem dX0_init_4 : decode cX0_init 4 = .ok (.aload_n 0, 1) := by decide +kernel
theorem dX0_init_5 : decode cX0_init 5 = .ok (.iconst 4, 1) := by decide +kernel
theorem dX0_init_6 : decode cX0_init 6 = .ok (.newarray .int, 2) := by decide +kernel
theorem dX0_init_8 : decode cX0_init 8 = .ok (.putfield 11, 3) := by decide +kernel
theorem dX0_init_11 : decode cX0_init 11 = .ok (.return_, 1) := by decide +kernel
theorem dX0_begin_0 : decode cX0_begin 0 = .ok (.aload_n 0, 1) := by decide +kernel
theorem dX0_begin_1 : decode cX0_begin 1 = .ok (.iconst 0, 1) := by decide +kernel
theorem dX0_begin_2 : decode cX0_begin 2 = .ok (.putfield 15, 3) := by decide +kernel
theorem dX0_begin_5 : decode cX0_begin 5 = .ok (.aload_n 0, 1) := by decide +kernel
theorem dX0_begin_6 : decode cX0_begin 6 = .ok (.iconst 0, 1) := by decide +kernel
theorem dX0_begin_7 : decode cX0_begin 7 = .ok (.putfield 19, 3) := by decide +kernel
theorem dX0_begin_10 : decode cX0_begin 10 = .ok (.aload_n 0, 1) := by decide +kernel
theorem dX0_begin_11 : decode cX0_begin 11 = .ok (.iconst 0, 1) := by decide +kernel
theorem dX0_begin_12 : decode cX0_begin 12 = .ok (.putfield 22, 3) := by decide +kernel
theorem dX0_begin_15 : decode cX0_begin 15 = .ok (.return_, 1) := by decide +kernel
theorem dX0_takeSign_0 : decode cX0_takeSign 0 = .ok (.aload_n 0, 1) := by decide +kernel
theorem dX0_takeSign_1 : decode cX0_takeSign 1 = .ok (.getfield 15, 3) := by decide +kernel
theorem dX0_takeSign_4 : decode cX0_takeSign 4 = .ok (.ifCond .ne 10, 3) := by decide +kernel
theorem dX0_takeSign_7 : decode cX0_takeSign 7 = .ok (.aload_n 0, 1) := by decide +kernel
theorem dX0_takeSign_8 : decode cX0_takeSign 8 = .ok (.getfield 22, 3) := by decide +kernel
theorem dX0_takeSign_11 : decode cX0_takeSign 11 = .ok (.ifCond .eq 5, 3) := by decide +kernel
theorem dX0_takeSign_14 : decode cX0_takeSign 14 = .ok (.iconst 0, 1) := by decide +kernel
theorem dX0_takeSign_15 : decode cX0_takeSign 15 = .ok (.ireturn, 1) := by decide +kernel
theorem dX0_takeSign_16 : decode cX0_takeSign 16 = .ok (.aload_n 0, 1) := by decide +kernel
theorem dX0_takeSign_17 : decode cX0_takeSign 17 = .ok (.iload_n 1, 1) := by decide +kernel
theorem dX0_takeSign_18 : decode cX0_takeSign 18 = .ok (.putfield 15, 3) := by decide +kernel
theorem dX0_takeSign_21 : decode cX0_takeSign 21 = .ok (.iconst 1, 1) := by decide +kernel
theorem dX0_takeSign_22 : decode cX0_takeSign 22 = .ok (.ireturn, 1) := by decide +kernel
theorem dX0_needsAmount_0 : decode cX0_needsAmount 0 = .ok (.aload_n 0, 1) := by decide +kernel
theorem dX0_needsAmount_1 : decode cX0_needsAmount 1 = .ok (.getfield 15, 3) := by decide +kernel
theorem dX0_needsAmount_4 : decode cX0_needsAmount 4 = .ok (.iconst 2, 1) := by decide +kernel
theorem dX0_needsAmount_5 : decode cX0_needsAmount 5 = .ok (.if_icmp .eq 11, 3) := by decide +kernel
theorem dX0_needsAmount_8 : decode cX0_needsAmount 8 = .ok (.aload_n 0, 1) := by decide +kernel
theorem dX0_needsAmount_9 : decode cX0_needsAmount 9 = .ok (.getfield 15, 3) := by decide +kernel
theorem dX0_needsAmount_12 : decode cX0_needsAmount 12 = .ok (.iconst 3, 1) := by decide +kernel
theorem dX0_needsAmount_13 : decode cX0_needsAmount 13 = .ok (.if_icmp .ne 14, 3) := by decide +kernel
theorem dX0_needsAmount_16 : decode cX0_needsAmount 16 = .ok (.aload_n 0, 1) := by decide +kernel
theorem dX0_needsAmount_17 : decode cX0_needsAmount 17 = .ok (.getfield 19, 3) := by decide +kernel
theorem dX0_needsAmount_20 : decode cX0_needsAmount 20 = .ok (.ifCond .ne 7, 3) := by decide +kernel
theorem dX0_needsAmount_23 : decode cX0_needsAmount 23 = .ok (.iconst 1, 1) := by decide +kernel
theorem dX0_needsAmount_24 : decode cX0_needsAmount 24 = .ok (.goto 4, 3) := by decide +kernel
theorem dX0_needsAmount_27 : decode cX0_needsAmount 27 = .ok (.iconst 0, 1) := by decide +kernel
theorem dX0_needsAmount_28 : decode cX0_needsAmount 28 = .ok (.ireturn, 1) := by decide +kernel
theorem dX0_takeAmount_0 : decode cX0_takeAmount 0 = .ok (.aload_n 0, 1) := by decide +kernel
theorem dX0_takeAmount_1 : decode cX0_takeAmount 1 = .ok (.iload_n 1, 1) := by decide +kernel
theorem dX0_takeAmount_2 : decode cX0_takeAmount 2 = .ok (.putfield 19, 3) := by decide +kernel
theorem dX0_takeAmount_5 : decode cX0_takeAmount 5 = .ok (.iload_n 1, 1) := by decide +kernel
theorem dX0_takeAmount_6 : decode cX0_takeAmount 6 = .ok (.ifCond .eq 7, 3) := by decide +kernel
theorem dX0_takeAmount_9 : decode cX0_takeAmount 9 = .ok (.iconst 1, 1) := by decide +kernel
theorem dX0_takeAmount_10 : decode cX0_takeAmount 10 = .ok (.goto 4, 3) := by decide +kernel
theorem dX0_takeAmount_13 : decode cX0_takeAmount 13 = .ok (.iconst 0, 1) := by decide +kernel
theorem dX0_takeAmount_14 : decode cX0_takeAmount 14 = .ok (.ireturn, 1) := by decide +kernel
theorem dX0_takePerson_0 : decode cX0_takePerson 0 = .ok (.aload_n 0, 1) := by decide +kernel
theorem dX0_takePerson_1 : decode cX0_takePerson 1 = .ok (.getfield 15, 3) := by decide +kernel
theorem dX0_takePerson_4 : decode cX0_takePerson 4 = .ok (.iconst 1, 1) := by decide +kernel
theorem dX0_takePerson_5 : decode cX0_takePerson 5 = .ok (.if_icmp .ne 7, 3) := by decide +kernel
theorem dX0_takePerson_8 : decode cX0_takePerson 8 = .ok (.iconst 4, 1) := by decide +kernel
theorem dX0_takePerson_9 : decode cX0_takePerson 9 = .ok (.goto 4, 3) := by decide +kernel
theorem dX0_takePerson_12 : decode cX0_takePerson 12 = .ok (.iconst 2, 1) := by decide +kernel
theorem dX0_takePerson_13 : decode cX0_takePerson 13 = .ok (.istore_n 2, 1) := by decide +kernel
theorem dX0_takePerson_14 : decode cX0_takePerson 14 = .ok (.aload_n 0, 1) := by decide +kernel
theorem dX0_takePerson_15 : decode cX0_takePerson 15 = .ok (.getfield 22, 3) := by decide +kernel
theorem dX0_takePerson_18 : decode cX0_takePerson 18 = .ok (.iload_n 2, 1) := by decide +kernel
theorem dX0_takePerson_19 : decode cX0_takePerson 19 = .ok (.if_icmp .lt 5, 3) := by decide +kernel
theorem dX0_takePerson_22 : decode cX0_takePerson 22 = .ok (.iconst 0, 1) := by decide +kernel
theorem dX0_takePerson_23 : decode cX0_takePerson 23 = .ok (.ireturn, 1) := by decide +kernel
theorem dX0_takePerson_24 : decode cX0_takePerson 24 = .ok (.aload_n 0, 1) := by decide +kernel
theorem dX0_takePerson_25 : decode cX0_takePerson 25 = .ok (.getfield 11, 3) := by decide +kernel
theorem dX0_takePerson_28 : decode cX0_takePerson 28 = .ok (.aload_n 0, 1) := by decide +kernel
theorem dX0_takePerson_29 : decode cX0_takePerson 29 = .ok (.getfield 22, 3) := by decide +kernel
theorem dX0_takePerson_32 : decode cX0_takePerson 32 = .ok (.iload_n 1, 1) := by decide +kernel
theorem dX0_takePerson_33 : decode cX0_takePerson 33 = .ok (.iastore, 1) := by decide +kernel
theorem dX0_takePerson_34 : decode cX0_takePerson 34 = .ok (.aload_n 0, 1) := by decide +kernel
theorem dX0_takePerson_35 : decode cX0_takePerson 35 = .ok (.dup, 1) := by decide +kernel
theorem dX0_takePerson_36 : decode cX0_takePerson 36 = .ok (.getfield 22, 3) := by decide +kernel
theorem dX0_takePerson_39 : decode cX0_takePerson 39 = .ok (.iconst 1, 1) := by decide +kernel
theorem dX0_takePerson_40 : decode cX0_takePerson 40 = .ok (.iadd, 1) := by decide +kernel
theorem dX0_takePerson_41 : decode cX0_takePerson 41 = .ok (.putfield 22, 3) := by decide +kernel
theorem dX0_takePerson_44 : decode cX0_takePerson 44 = .ok (.iconst 1, 1) := by decide +kernel
theorem dX0_takePerson_45 : decode cX0_takePerson 45 = .ok (.ireturn, 1) := by decide +kernel
theorem dX0_isWhole_0 : decode cX0_isWhole 0 = .ok (.aload_n 0, 1) := by decide +kernel
theorem dX0_isWhole_1 : decode cX0_isWhole 1 = .ok (.getfield 22, 3) := by decide +kernel
theorem dX0_isWhole_4 : decode cX0_isWhole 4 = .ok (.aload_n 0, 1) := by decide +kernel
theorem dX0_isWhole_5 : decode cX0_isWhole 5 = .ok (.getfield 15, 3) := by decide +kernel
theorem dX0_isWhole_8 : decode cX0_isWhole 8 = .ok (.iconst 1, 1) := by decide +kernel
theorem dX0_isWhole_9 : decode cX0_isWhole 9 = .ok (.if_icmp .ne 7, 3) := by decide +kernel
theorem dX0_isWhole_12 : decode cX0_isWhole 12 = .ok (.iconst 3, 1) := by decide +kernel
theorem dX0_isWhole_13 : decode cX0_isWhole 13 = .ok (.goto 4, 3) := by decide +kernel
theorem dX0_isWhole_16 : decode cX0_isWhole 16 = .ok (.iconst 2, 1) := by decide +kernel
theorem dX0_isWhole_17 : decode cX0_isWhole 17 = .ok (.if_icmp .lt 7, 3) := by decide +kernel
theorem dX0_isWhole_20 : decode cX0_isWhole 20 = .ok (.iconst 1, 1) := by decide +kernel
theorem dX0_isWhole_21 : decode cX0_isWhole 21 = .ok (.goto 4, 3) := by decide +kernel
theorem dX0_isWhole_24 : decode cX0_isWhole 24 = .ok (.iconst 0, 1) := by decide +kernel
theorem dX0_isWhole_25 : decode cX0_isWhole 25 = .ok (.ireturn, 1) := by decide +kernel
theorem dX0_isA_0 : decode cX0_isA 0 = .ok (.iload_n 1, 1) := by decide +kernel
theorem dX0_isA_1 : decode cX0_isA 1 = .ok (.ifCond .eq 11, 3) := by decide +kernel
theorem dX0_isA_4 : decode cX0_isA 4 = .ok (.iload_n 1, 1) := by decide +kernel
theorem dX0_isA_5 : decode cX0_isA 5 = .ok (.aload_n 0, 1) := by decide +kernel
theorem dX0_isA_6 : decode cX0_isA 6 = .ok (.getfield 15, 3) := by decide +kernel
theorem dX0_isA_9 : decode cX0_isA 9 = .ok (.if_icmp .ne 7, 3) := by decide +kernel
theorem dX0_isA_12 : decode cX0_isA 12 = .ok (.iconst 1, 1) := by decide +kernel
theorem dX0_isA_13 : decode cX0_isA 13 = .ok (.goto 4, 3) := by decide +kernel
theorem dX0_isA_16 : decode cX0_isA 16 = .ok (.iconst 0, 1) := by decide +kernel
theorem dX0_isA_17 : decode cX0_isA 17 = .ok (.ireturn, 1) := by decide +kernel
theorem dX0_size_0 : decode cX0_size 0 = .ok (.aload_n 0, 1) := by decide +kernel
theorem dX0_size_1 : decode cX0_size 1 = .ok (.getfield 22, 3) := by decide +kernel
theorem dX0_size_4 : decode cX0_size 4 = .ok (.ireturn, 1) := by decide +kernel
theorem dX0_tenths_0 : decode cX0_tenths 0 = .ok (.aload_n 0, 1) := by decide +kernel
theorem dX0_tenths_1 : decode cX0_tenths 1 = .ok (.getfield 15, 3) := by decide +kernel
theorem dX0_tenths_4 : decode cX0_tenths 4 = .ok (.iconst 2, 1) := by decide +kernel
theorem dX0_tenths_5 : decode cX0_tenths 5 = .ok (.if_icmp .ne 10, 3) := by decide +kernel
theorem dX0_tenths_8 : decode cX0_tenths 8 = .ok (.aload_n 0, 1) := by decide +kernel
theorem dX0_tenths_9 : decode cX0_tenths 9 = .ok (.getfield 19, 3) := by decide +kernel
theorem dX0_tenths_12 : decode cX0_tenths 12 = .ok (.goto 5, 3) := by decide +kernel
theorem dX0_tenths_15 : decode cX0_tenths 15 = .ok (.bipush 10, 2) := by decide +kernel
theorem dX0_tenths_17 : decode cX0_tenths 17 = .ok (.ireturn, 1) := by decide +kernel
theorem dX0_fact_0 : decode cX0_fact 0 = .ok (.iload_n 1, 1) := by decide +kernel
theorem dX0_fact_1 : decode cX0_fact 1 = .ok (.tableswitch 42 0 2 #[27, 32, 37], 27) := by decide +kernel
theorem dX0_fact_28 : decode cX0_fact 28 = .ok (.aload_n 0, 1) := by decide +kernel
theorem dX0_fact_29 : decode cX0_fact 29 = .ok (.getfield 15, 3) := by decide +kernel
theorem dX0_fact_32 : decode cX0_fact 32 = .ok (.ireturn, 1) := by decide +kernel
theorem dX0_fact_33 : decode cX0_fact 33 = .ok (.aload_n 0, 1) := by decide +kernel
theorem dX0_fact_34 : decode cX0_fact 34 = .ok (.getfield 22, 3) := by decide +kernel
theorem dX0_fact_37 : decode cX0_fact 37 = .ok (.ireturn, 1) := by decide +kernel
theorem dX0_fact_38 : decode cX0_fact 38 = .ok (.aload_n 0, 1) := by decide +kernel
theorem dX0_fact_39 : decode cX0_fact 39 = .ok (.getfield 19, 3) := by decide +kernel
theorem dX0_fact_42 : decode cX0_fact 42 = .ok (.ireturn, 1) := by decide +kernel
theorem dX0_fact_43 : decode cX0_fact 43 = .ok (.aload_n 0, 1) := by decide +kernel
theorem dX0_fact_44 : decode cX0_fact 44 = .ok (.iload_n 1, 1) := by decide +kernel
theorem dX0_fact_45 : decode cX0_fact 45 = .ok (.iconst 3, 1) := by decide +kernel
theorem dX0_fact_46 : decode cX0_fact 46 = .ok (.isub, 1) := by decide +kernel
theorem dX0_fact_47 : decode cX0_fact 47 = .ok (.invokevirtual 25, 3) := by decide +kernel
theorem dX0_fact_50 : decode cX0_fact 50 = .ok (.ireturn, 1) := by decide +kernel
theorem dX0_member_0 : decode cX0_member 0 = .ok (.iload_n 1, 1) := by decide +kernel
theorem dX0_member_1 : decode cX0_member 1 = .ok (.ifCond .lt 25, 3) := by decide +kernel
theorem dX0_member_4 : decode cX0_member 4 = .ok (.iload_n 1, 1) := by decide +kernel
theorem dX0_member_5 : decode cX0_member 5 = .ok (.aload_n 0, 1) := by decide +kernel
theorem dX0_member_6 : decode cX0_member 6 = .ok (.getfield 22, 3) := by decide +kernel
theorem dX0_member_9 : decode cX0_member 9 = .ok (.if_icmp .ge 17, 3) := by decide +kernel
theorem dX0_member_12 : decode cX0_member 12 = .ok (.iload_n 1, 1) := by decide +kernel
theorem dX0_member_13 : decode cX0_member 13 = .ok (.iconst 4, 1) := by decide +kernel
theorem dX0_member_14 : decode cX0_member 14 = .ok (.if_icmp .ge 12, 3) := by decide +kernel
theorem dX0_member_17 : decode cX0_member 17 = .ok (.aload_n 0, 1) := by decide +kernel
theorem dX0_member_18 : decode cX0_member 18 = .ok (.getfield 11, 3) := by decide +kernel
theorem dX0_member_21 : decode cX0_member 21 = .ok (.iload_n 1, 1) := by decide +kernel
theorem dX0_member_22 : decode cX0_member 22 = .ok (.iaload, 1) := by decide +kernel
theorem dX0_member_23 : decode cX0_member 23 = .ok (.goto 4, 3) := by decide +kernel
theorem dX0_member_26 : decode cX0_member 26 = .ok (.iconst (-1), 1) := by decide +kernel
theorem dX0_member_27 : decode cX0_member 27 = .ok (.ireturn, 1) := by decide +kernel
theorem dX0_placeOf_0 : decode cX0_placeOf 0 = .ok (.iconst 0, 1) := by decide +kernel
theorem dX0_placeOf_1 : decode cX0_placeOf 1 = .ok (.istore_n 2, 1) := by decide +kernel
theorem dX0_placeOf_2 : decode cX0_placeOf 2 = .ok (.iload_n 2, 1) := by decide +kernel
theorem dX0_placeOf_3 : decode cX0_placeOf 3 = .ok (.aload_n 0, 1) := by decide +kernel
theorem dX0_placeOf_4 : decode cX0_placeOf 4 = .ok (.getfield 22, 3) := by decide +kernel
theorem dX0_placeOf_7 : decode cX0_placeOf 7 = .ok (.if_icmp .ge 20, 3) := by decide +kernel
theorem dX0_placeOf_10 : decode cX0_placeOf 10 = .ok (.aload_n 0, 1) := by decide +kernel
theorem dX0_placeOf_11 : decode cX0_placeOf 11 = .ok (.iload_n 2, 1) := by decide +kernel
theorem dX0_placeOf_12 : decode cX0_placeOf 12 = .ok (.invokevirtual 25, 3) := by decide +kernel
theorem dX0_placeOf_15 : decode cX0_placeOf 15 = .ok (.iload_n 1, 1) := by decide +kernel
theorem dX0_placeOf_16 : decode cX0_placeOf 16 = .ok (.if_icmp .ne 5, 3) := by decide +kernel
theorem dX0_placeOf_19 : decode cX0_placeOf 19 = .ok (.iload_n 2, 1) := by decide +kernel
theorem dX0_placeOf_20 : decode cX0_placeOf 20 = .ok (.ireturn, 1) := by decide +kernel
theorem dX0_placeOf_21 : decode cX0_placeOf 21 = .ok (.iinc 2 1, 3) := by decide +kernel
theorem dX0_placeOf_24 : decode cX0_placeOf 24 = .ok (.goto (-22), 3) := by decide +kernel
theorem dX0_placeOf_27 : decode cX0_placeOf 27 = .ok (.iconst (-1), 1) := by decide +kernel
theorem dX0_placeOf_28 : decode cX0_placeOf 28 = .ok (.ireturn, 1) := by decide +kernel
theorem dX0_hasAnyOf_0 : decode cX0_hasAnyOf 0 = .ok (.iconst 0, 1) := by decide +kernel
theorem dX0_hasAnyOf_1 : decode cX0_hasAnyOf 1 = .ok (.istore_n 2, 1) := by decide +kernel
theorem dX0_hasAnyOf_2 : decode cX0_hasAnyOf 2 = .ok (.iload_n 2, 1) := by decide +kernel
theorem dX0_hasAnyOf_3 : decode cX0_hasAnyOf 3 = .ok (.aload_n 0, 1) := by decide +kernel
theorem dX0_hasAnyOf_4 : decode cX0_hasAnyOf 4 = .ok (.getfield 22, 3) := by decide +kernel
theorem dX0_hasAnyOf_7 : decode cX0_hasAnyOf 7 = .ok (.if_icmp .ge 23, 3) := by decide +kernel
theorem dX0_hasAnyOf_10 : decode cX0_hasAnyOf 10 = .ok (.iload_n 1, 1) := by decide +kernel
theorem dX0_hasAnyOf_11 : decode cX0_hasAnyOf 11 = .ok (.aload_n 0, 1) := by decide +kernel
theorem dX0_hasAnyOf_12 : decode cX0_hasAnyOf 12 = .ok (.iload_n 2, 1) := by decide +kernel
theorem dX0_hasAnyOf_13 : decode cX0_hasAnyOf 13 = .ok (.invokevirtual 25, 3) := by decide +kernel
theorem dX0_hasAnyOf_16 : decode cX0_hasAnyOf 16 = .ok (.invokestatic 29, 3) := by decide +kernel
theorem dX0_hasAnyOf_19 : decode cX0_hasAnyOf 19 = .ok (.ifCond .eq 5, 3) := by decide +kernel
theorem dX0_hasAnyOf_22 : decode cX0_hasAnyOf 22 = .ok (.iconst 1, 1) := by decide +kernel
theorem dX0_hasAnyOf_23 : decode cX0_hasAnyOf 23 = .ok (.ireturn, 1) := by decide +kernel
theorem dX0_hasAnyOf_24 : decode cX0_hasAnyOf 24 = .ok (.iinc 2 1, 3) := by decide +kernel
theorem dX0_hasAnyOf_27 : decode cX0_hasAnyOf 27 = .ok (.goto (-25), 3) := by decide +kernel
theorem dX0_hasAnyOf_30 : decode cX0_hasAnyOf 30 = .ok (.iconst 0, 1) := by decide +kernel
theorem dX0_hasAnyOf_31 : decode cX0_hasAnyOf 31 = .ok (.ireturn, 1) := by decide +kernel
theorem dX0_delay_0 : decode cX0_delay 0 = .ok (.aload_n 0, 1) := by decide +kernel
theorem dX0_delay_1 : decode cX0_delay 1 = .ok (.getfield 15, 3) := by decide +kernel
theorem dX0_delay_4 : decode cX0_delay 4 = .ok (.lookupswitch 53 #[(1, 28), (3, 48)], 28) := by decide +kernel
theorem dX0_delay_32 : decode cX0_delay 32 = .ok (.iload_n 1, 1) := by decide +kernel
theorem dX0_delay_33 : decode cX0_delay 33 = .ok (.iload_n 2, 1) := by decide +kernel
theorem dX0_delay_34 : decode cX0_delay 34 = .ok (.if_icmp .gt 9, 3) := by decide +kernel
theorem dX0_delay_37 : decode cX0_delay 37 = .ok (.iload_n 2, 1) := by decide +kernel
theorem dX0_delay_38 : decode cX0_delay 38 = .ok (.iload_n 1, 1) := by decide +kernel
theorem dX0_delay_39 : decode cX0_delay 39 = .ok (.isub, 1) := by decide +kernel
theorem dX0_delay_40 : decode cX0_delay 40 = .ok (.goto 11, 3) := by decide +kernel
theorem dX0_delay_43 : decode cX0_delay 43 = .ok (.iload_n 2, 1) := by decide +kernel
theorem dX0_delay_44 : decode cX0_delay 44 = .ok (.iload_n 1, 1) := by decide +kernel
theorem dX0_delay_45 : decode cX0_delay 45 = .ok (.isub, 1) := by decide +kernel
theorem dX0_delay_46 : decode cX0_delay 46 = .ok (.aload_n 0, 1) := by decide +kernel
theorem dX0_delay_47 : decode cX0_delay 47 = .ok (.getfield 22, 3) := by decide +kernel
theorem dX0_delay_50 : decode cX0_delay 50 = .ok (.iadd, 1) := by decide +kernel
theorem dX0_delay_51 : decode cX0_delay 51 = .ok (.ireturn, 1) := by decide +kernel
theorem dX0_delay_52 : decode cX0_delay 52 = .ok (.aload_n 0, 1) := by decide +kernel
theorem dX0_delay_53 : decode cX0_delay 53 = .ok (.getfield 19, 3) := by decide +kernel
theorem dX0_delay_56 : decode cX0_delay 56 = .ok (.ireturn, 1) := by decide +kernel
theorem dX0_delay_57 : decode cX0_delay 57 = .ok (.iconst 0, 1) := by decide +kernel
theorem dX0_delay_58 : decode cX0_delay 58 = .ok (.ireturn, 1) := by decide +kernel
theorem dX1_init_0 : decode cX1_init 0 = .ok (.aload_n 0, 1) := by decide +kernel
theorem dX1_init_1 : decode cX1_init 1 = .ok (.invokespecial 3, 3) := by decide +kernel
theorem dX1_init_4 : decode cX1_init 4 = .ok (.aload_n 0, 1) := by decide +kernel
theorem dX1_init_5 : decode cX1_init 5 = .ok (.iconst 4, 1) := by decide +kernel
theorem dX1_init_6 : decode cX1_init 6 = .ok (.newarray .int, 2) := by decide +kernel
theorem dX1_init_8 : decode cX1_init 8 = .ok (.putfield 11, 3) := by decide +kernel
theorem dX1_init_11 : decode cX1_init 11 = .ok (.return_, 1) := by decide +kernel
theorem dX1_size_0 : decode cX1_size 0 = .ok (.aload_n 0, 1) := by decide +kernel
theorem dX1_size_1 : decode cX1_size 1 = .ok (.getfield 15, 3) := by decide +kernel
theorem dX1_size_4 : decode cX1_size 4 = .ok (.ireturn, 1) := by decide +kernel
theorem dX1_at_0 : decode cX1_at 0 = .ok (.iload_n 1, 1) := by decide +kernel
theorem dX1_at_1 : decode cX1_at 1 = .ok (.ifCond .lt 25, 3) := by decide +kernel
theorem dX1_at_4 : decode cX1_at 4 = .ok (.iload_n 1, 1) := by decide +kernel
theorem dX1_at_5 : decode cX1_at 5 = .ok (.aload_n 0, 1) := by decide +kernel
theorem dX1_at_6 : decode cX1_at 6 = .ok (.getfield 15, 3) := by decide +kernel
theorem dX1_at_9 : decode cX1_at 9 = .ok (.if_icmp .ge 17, 3) := by decide +kernel
theorem dX1_at_12 : decode cX1_at 12 = .ok (.iload_n 1, 1) := by decide +kernel
theorem dX1_at_13 : decode cX1_at 13 = .ok (.iconst 4, 1) := by decide +kernel
theorem dX1_at_14 : decode cX1_at 14 = .ok (.if_icmp .ge 12, 3) := by decide +kernel
theorem dX1_at_17 : decode cX1_at 17 = .ok (.aload_n 0, 1) := by decide +kernel
theorem dX1_at_18 : decode cX1_at 18 = .ok (.getfield 11, 3) := by decide +kernel
theorem dX1_at_21 : decode cX1_at 21 = .ok (.iload_n 1, 1) := by decide +kernel
theorem dX1_at_22 : decode cX1_at 22 = .ok (.iaload, 1) := by decide +kernel
theorem dX1_at_23 : decode cX1_at 23 = .ok (.goto 4, 3) := by decide +kernel
theorem dX1_at_26 : decode cX1_at 26 = .ok (.iconst (-1), 1) := by decide +kernel
theorem dX1_at_27 : decode cX1_at 27 = .ok (.ireturn, 1) := by decide +kernel
theorem dX1_add_0 : decode cX1_add 0 = .ok (.iconst 0, 1) := by decide +kernel
theorem dX1_add_1 : decode cX1_add 1 = .ok (.istore_n 2, 1) := by decide +kernel
theorem dX1_add_2 : decode cX1_add 2 = .ok (.iload_n 2, 1) := by decide +kernel
theorem dX1_add_3 : decode cX1_add 3 = .ok (.aload_n 0, 1) := by decide +kernel
theorem dX1_add_4 : decode cX1_add 4 = .ok (.getfield 15, 3) := by decide +kernel
theorem dX1_add_7 : decode cX1_add 7 = .ok (.if_icmp .ge 21, 3) := by decide +kernel
theorem dX1_add_10 : decode cX1_add 10 = .ok (.aload_n 0, 1) := by decide +kernel
theorem dX1_add_11 : decode cX1_add 11 = .ok (.iload_n 2, 1) := by decide +kernel
theorem dX1_add_12 : decode cX1_add 12 = .ok (.invokevirtual 19, 3) := by decide +kernel
theorem dX1_add_15 : decode cX1_add 15 = .ok (.iload_n 1, 1) := by decide +kernel
theorem dX1_add_16 : decode cX1_add 16 = .ok (.if_icmp .ne 6, 3) := by decide +kernel
theorem dX1_add_19 : decode cX1_add 19 = .ok (.bipush (-103), 2) := by decide +kernel
theorem dX1_add_21 : decode cX1_add 21 = .ok (.ireturn, 1) := by decide +kernel
theorem dX1_add_22 : decode cX1_add 22 = .ok (.iinc 2 1, 3) := by decide +kernel
theorem dX1_add_25 : decode cX1_add 25 = .ok (.goto (-23), 3) := by decide +kernel
theorem dX1_add_28 : decode cX1_add 28 = .ok (.aload_n 0, 1) := by decide +kernel
theorem dX1_add_29 : decode cX1_add 29 = .ok (.getfield 15, 3) := by decide +kernel
theorem dX1_add_32 : decode cX1_add 32 = .ok (.iconst 4, 1) := by decide +kernel
theorem dX1_add_33 : decode cX1_add 33 = .ok (.if_icmp .lt 6, 3) := by decide +kernel
theorem dX1_add_36 : decode cX1_add 36 = .ok (.bipush (-104), 2) := by decide +kernel
theorem dX1_add_38 : decode cX1_add 38 = .ok (.ireturn, 1) := by decide +kernel
theorem dX1_add_39 : decode cX1_add 39 = .ok (.aload_n 0, 1) := by decide +kernel
theorem dX1_add_40 : decode cX1_add 40 = .ok (.getfield 11, 3) := by decide +kernel
theorem dX1_add_43 : decode cX1_add 43 = .ok (.aload_n 0, 1) := by decide +kernel
theorem dX1_add_44 : decode cX1_add 44 = .ok (.getfield 15, 3) := by decide +kernel
theorem dX1_add_47 : decode cX1_add 47 = .ok (.iload_n 1, 1) := by decide +kernel
theorem dX1_add_48 : decode cX1_add 48 = .ok (.iastore, 1) := by decide +kernel
theorem dX1_add_49 : decode cX1_add 49 = .ok (.aload_n 0, 1) := by decide +kernel
theorem dX1_add_50 : decode cX1_add 50 = .ok (.dup, 1) := by decide +kernel
theorem dX1_add_51 : decode cX1_add 51 = .ok (.getfield 15, 3) := by decide +kernel
theorem dX1_add_54 : decode cX1_add 54 = .ok (.iconst 1, 1) := by decide +kernel
theorem dX1_add_55 : decode cX1_add 55 = .ok (.iadd, 1) := by decide +kernel
theorem dX1_add_56 : decode cX1_add 56 = .ok (.putfield 15, 3) := by decide +kernel
theorem dX1_add_59 : decode cX1_add 59 = .ok (.aload_n 0, 1) := by decide +kernel
theorem dX1_add_60 : decode cX1_add 60 = .ok (.getfield 15, 3) := by decide +kernel
theorem dX1_add_63 : decode cX1_add 63 = .ok (.ireturn, 1) := by decide +kernel
theorem dX1_copyFrom_0 : decode cX1_copyFrom 0 = .ok (.aload_n 1, 1) := by decide +kernel
theorem dX1_copyFrom_1 : decode cX1_copyFrom 1 = .ok (.getfield 11, 3) := by decide +kernel
theorem dX1_copyFrom_4 : decode cX1_copyFrom 4 = .ok (.iconst 0, 1) := by decide +kernel
theorem dX1_copyFrom_5 : decode cX1_copyFrom 5 = .ok (.aload_n 0, 1) := by decide +kernel
theorem dX1_copyFrom_6 : decode cX1_copyFrom 6 = .ok (.getfield 11, 3) := by decide +kernel
theorem dX1_copyFrom_9 : decode cX1_copyFrom 9 = .ok (.iconst 0, 1) := by decide +kernel
theorem dX1_copyFrom_10 : decode cX1_copyFrom 10 = .ok (.iconst 4, 1) := by decide +kernel
theorem dX1_copyFrom_11 : decode cX1_copyFrom 11 = .ok (.invokestatic 23, 3) := by decide +kernel
theorem dX1_copyFrom_14 : decode cX1_copyFrom 14 = .ok (.aload_n 0, 1) := by decide +kernel
theorem dX1_copyFrom_15 : decode cX1_copyFrom 15 = .ok (.aload_n 1, 1) := by decide +kernel
theorem dX1_copyFrom_16 : decode cX1_copyFrom 16 = .ok (.getfield 15, 3) := by decide +kernel
theorem dX1_copyFrom_19 : decode cX1_copyFrom 19 = .ok (.putfield 15, 3) := by decide +kernel
theorem dX1_copyFrom_22 : decode cX1_copyFrom 22 = .ok (.return_, 1) := by decide +kernel
theorem dX1_weight_0 : decode cX1_weight 0 = .ok (.aload_n 0, 1) := by decide +kernel
theorem dX1_weight_1 : decode cX1_weight 1 = .ok (.iload_n 1, 1) := by decide +kernel
theorem dX1_weight_2 : decode cX1_weight 2 = .ok (.invokevirtual 19, 3) := by decide +kernel
theorem dX1_weight_5 : decode cX1_weight 5 = .ok (.istore 4, 2) := by decide +kernel
theorem dX1_weight_7 : decode cX1_weight 7 = .ok (.iload_n 2, 1) := by decide +kernel
theorem dX1_weight_8 : decode cX1_weight 8 = .ok (.iload 4, 2) := by decide +kernel
theorem dX1_weight_10 : decode cX1_weight 10 = .ok (.iconst (-1), 1) := by decide +kernel
theorem dX1_weight_11 : decode cX1_weight 11 = .ok (.ixor, 1) := by decide +kernel
theorem dX1_weight_12 : decode cX1_weight 12 = .ok (.iand, 1) := by decide +kernel
theorem dX1_weight_13 : decode cX1_weight 13 = .ok (.ifCond .eq 5, 3) := by decide +kernel
theorem dX1_weight_16 : decode cX1_weight 16 = .ok (.lconst 0, 1) := by decide +kernel
theorem dX1_weight_17 : decode cX1_weight 17 = .ok (.lreturn, 1) := by decide +kernel
theorem dX1_weight_18 : decode cX1_weight 18 = .ok (.iload 4, 2) := by decide +kernel
theorem dX1_weight_20 : decode cX1_weight 20 = .ok (.iload_n 2, 1) := by decide +kernel
theorem dX1_weight_21 : decode cX1_weight 21 = .ok (.iconst (-1), 1) := by decide +kernel
theorem dX1_weight_22 : decode cX1_weight 22 = .ok (.ixor, 1) := by decide +kernel
theorem dX1_weight_23 : decode cX1_weight 23 = .ok (.iand, 1) := by decide +kernel
theorem dX1_weight_24 : decode cX1_weight 24 = .ok (.invokestatic 29, 3) := by decide +kernel
theorem dX1_weight_27 : decode cX1_weight 27 = .ok (.istore 5, 2) := by decide +kernel
theorem dX1_weight_29 : decode cX1_weight 29 = .ok (.iload_n 3, 1) := by decide +kernel
theorem dX1_weight_30 : decode cX1_weight 30 = .ok (.i2l, 1) := by decide +kernel
theorem dX1_weight_31 : decode cX1_weight 31 = .ok (.iload 5, 2) := by decide +kernel
theorem dX1_weight_33 : decode cX1_weight 33 = .ok (.invokestatic 34, 3) := by decide +kernel
theorem dX1_weight_36 : decode cX1_weight 36 = .ok (.ldc2_w 38, 3) := by decide +kernel
theorem dX1_weight_39 : decode cX1_weight 39 = .ok (.bipush 8, 2) := by decide +kernel
theorem dX1_weight_41 : decode cX1_weight 41 = .ok (.iload 5, 2) := by decide +kernel
theorem dX1_weight_43 : decode cX1_weight 43 = .ok (.isub, 1) := by decide +kernel
theorem dX1_weight_44 : decode cX1_weight 44 = .ok (.invokestatic 34, 3) := by decide +kernel
theorem dX1_weight_47 : decode cX1_weight 47 = .ok (.lmul, 1) := by decide +kernel
theorem dX1_weight_48 : decode cX1_weight 48 = .ok (.lreturn, 1) := by decide +kernel
theorem dX1_weightOfAll_0 : decode cX1_weightOfAll 0 = .ok (.lconst 0, 1) := by decide +kernel
theorem dX1_weightOfAll_1 : decode cX1_weightOfAll 1 = .ok (.lstore_n 3, 1) := by decide +kernel
theorem dX1_weightOfAll_2 : decode cX1_weightOfAll 2 = .ok (.iconst 0, 1) := by decide +kernel
theorem dX1_weightOfAll_3 : decode cX1_weightOfAll 3 = .ok (.istore 5, 2) := by decide +kernel
theorem dX1_weightOfAll_5 : decode cX1_weightOfAll 5 = .ok (.iload 5, 2) := by decide +kernel
theorem dX1_weightOfAll_7 : decode cX1_weightOfAll 7 = .ok (.aload_n 0, 1) := by decide +kernel
theorem dX1_weightOfAll_8 : decode cX1_weightOfAll 8 = .ok (.getfield 15, 3) := by decide +kernel
theorem dX1_weightOfAll_11 : decode cX1_weightOfAll 11 = .ok (.if_icmp .ge 20, 3) := by decide +kernel
theorem dX1_weightOfAll_14 : decode cX1_weightOfAll 14 = .ok (.lload_n 3, 1) := by decide +kernel
theorem dX1_weightOfAll_15 : decode cX1_weightOfAll 15 = .ok (.aload_n 0, 1) := by decide +kernel
theorem dX1_weightOfAll_16 : decode cX1_weightOfAll 16 = .ok (.iload 5, 2) := by decide +kernel
theorem dX1_weightOfAll_18 : decode cX1_weightOfAll 18 = .ok (.iload_n 1, 1) := by decide +kernel
theorem dX1_weightOfAll_19 : decode cX1_weightOfAll 19 = .ok (.iload_n 2, 1) := by decide +kernel
theorem dX1_weightOfAll_20 : decode cX1_weightOfAll 20 = .ok (.invokevirtual 40, 3) := by decide +kernel
theorem dX1_weightOfAll_23 : decode cX1_weightOfAll 23 = .ok (.ladd, 1) := by decide +kernel
theorem dX1_weightOfAll_24 : decode cX1_weightOfAll 24 = .ok (.lstore_n 3, 1) := by decide +kernel
theorem dX1_weightOfAll_25 : decode cX1_weightOfAll 25 = .ok (.iinc 5 1, 3) := by decide +kernel
theorem dX1_weightOfAll_28 : decode cX1_weightOfAll 28 = .ok (.goto (-23), 3) := by decide +kernel
theorem dX1_weightOfAll_31 : decode cX1_weightOfAll 31 = .ok (.lload_n 3, 1) := by decide +kernel
theorem dX1_weightOfAll_32 : decode cX1_weightOfAll 32 = .ok (.lreturn, 1) := by decide +kernel
theorem dX2_init_0 : decode cX2_init 0 = .ok (.aload_n 0, 1) := by decide +kernel
theorem dX2_init_1 : decode cX2_init 1 = .ok (.invokespecial 3, 3) := by decide +kernel
theorem dX2_init_4 : decode cX2_init 4 = .ok (.aload_n 0, 1) := by decide +kernel
theorem dX2_init_5 : decode cX2_init 5 = .ok (.bipush 8, 2) := by decide +kernel
theorem dX2_init_7 : decode cX2_init 7 = .ok (.newarray .int, 2) := by decide +kernel
theorem dX2_init_9 : decode cX2_init 9 = .ok (.putfield 11, 3) := by decide +kernel
theorem dX2_init_12 : decode cX2_init 12 = .ok (.aload_n 0, 1) := by decide +kernel
theorem dX2_init_13 : decode cX2_init 13 = .ok (.bipush 8, 2) := by decide +kernel
theorem dX2_init_15 : decode cX2_init 15 = .ok (.newarray .int, 2) := by decide +kernel
theorem dX2_init_17 : decode cX2_init 17 = .ok (.putfield 15, 3) := by decide +kernel
theorem dX2_init_20 : decode cX2_init 20 = .ok (.aload_n 0, 1) := by decide +kernel
theorem dX2_init_21 : decode cX2_init 21 = .ok (.bipush 8, 2) := by decide +kernel
theorem dX2_init_23 : decode cX2_init 23 = .ok (.newarray .int, 2) := by decide +kernel
theorem dX2_init_25 : decode cX2_init 25 = .ok (.putfield 18, 3) := by decide +kernel
theorem dX2_init_28 : decode cX2_init 28 = .ok (.aload_n 0, 1) := by decide +kernel
theorem dX2_init_29 : decode cX2_init 29 = .ok (.bipush 8, 2) := by decide +kernel
theorem dX2_init_31 : decode cX2_init 31 = .ok (.newarray .int, 2) := by decide +kernel
theorem dX2_init_33 : decode cX2_init 33 = .ok (.putfield 21, 3) := by decide +kernel
theorem dX2_init_36 : decode cX2_init 36 = .ok (.aload_n 0, 1) := by decide +kernel
theorem dX2_init_37 : decode cX2_init 37 = .ok (.iconst 4, 1) := by decide +kernel
theorem dX2_init_38 : decode cX2_init 38 = .ok (.putfield 24, 3) := by decide +kernel
theorem dX2_init_41 : decode cX2_init 41 = .ok (.return_, 1) := by decide +kernel
theorem dX2_size_0 : decode cX2_size 0 = .ok (.aload_n 0, 1) := by decide +kernel
theorem dX2_size_1 : decode cX2_size 1 = .ok (.getfield 24, 3) := by decide +kernel
theorem dX2_size_4 : decode cX2_size 4 = .ok (.ireturn, 1) := by decide +kernel
theorem dX2_winces_0 : decode cX2_winces 0 = .ok (.aload_n 0, 1) := by decide +kernel
theorem dX2_winces_1 : decode cX2_winces 1 = .ok (.getfield 28, 3) := by decide +kernel
theorem dX2_winces_4 : decode cX2_winces 4 = .ok (.ireturn, 1) := by decide +kernel
theorem dX2_gather_0 : decode cX2_gather 0 = .ok (.aload_n 0, 1) := by decide +kernel
theorem dX2_gather_1 : decode cX2_gather 1 = .ok (.iload_n 1, 1) := by decide +kernel
theorem dX2_gather_2 : decode cX2_gather 2 = .ok (.putfield 24, 3) := by decide +kernel
theorem dX2_gather_5 : decode cX2_gather 5 = .ok (.aload_n 0, 1) := by decide +kernel
theorem dX2_gather_6 : decode cX2_gather 6 = .ok (.iconst 0, 1) := by decide +kernel
theorem dX2_gather_7 : decode cX2_gather 7 = .ok (.putfield 28, 3) := by decide +kernel
theorem dX2_gather_10 : decode cX2_gather 10 = .ok (.return_, 1) := by decide +kernel
theorem dX2_add_0 : decode cX2_add 0 = .ok (.aload_n 0, 1) := by decide +kernel
theorem dX2_add_1 : decode cX2_add 1 = .ok (.getfield 28, 3) := by decide +kernel
theorem dX2_add_4 : decode cX2_add 4 = .ok (.bipush 8, 2) := by decide +kernel
theorem dX2_add_6 : decode cX2_add 6 = .ok (.if_icmp .lt 6, 3) := by decide +kernel
theorem dX2_add_9 : decode cX2_add 9 = .ok (.bipush (-104), 2) := by decide +kernel
theorem dX2_add_11 : decode cX2_add 11 = .ok (.ireturn, 1) := by decide +kernel
theorem dX2_add_12 : decode cX2_add 12 = .ok (.aload_n 0, 1) := by decide +kernel
theorem dX2_add_13 : decode cX2_add 13 = .ok (.getfield 11, 3) := by decide +kernel
theorem dX2_add_16 : decode cX2_add 16 = .ok (.aload_n 0, 1) := by decide +kernel
theorem dX2_add_17 : decode cX2_add 17 = .ok (.getfield 28, 3) := by decide +kernel
theorem dX2_add_20 : decode cX2_add 20 = .ok (.iload_n 1, 1) := by decide +kernel
theorem dX2_add_21 : decode cX2_add 21 = .ok (.iastore, 1) := by decide +kernel
theorem dX2_add_22 : decode cX2_add 22 = .ok (.aload_n 0, 1) := by decide +kernel
theorem dX2_add_23 : decode cX2_add 23 = .ok (.getfield 15, 3) := by decide +kernel
theorem dX2_add_26 : decode cX2_add 26 = .ok (.aload_n 0, 1) := by decide +kernel
theorem dX2_add_27 : decode cX2_add 27 = .ok (.getfield 28, 3) := by decide +kernel
theorem dX2_add_30 : decode cX2_add 30 = .ok (.iload_n 2, 1) := by decide +kernel
theorem dX2_add_31 : decode cX2_add 31 = .ok (.iastore, 1) := by decide +kernel
theorem dX2_add_32 : decode cX2_add 32 = .ok (.aload_n 0, 1) := by decide +kernel
theorem dX2_add_33 : decode cX2_add 33 = .ok (.dup, 1) := by decide +kernel
theorem dX2_add_34 : decode cX2_add 34 = .ok (.getfield 28, 3) := by decide +kernel
theorem dX2_add_37 : decode cX2_add 37 = .ok (.iconst 1, 1) := by decide +kernel
theorem dX2_add_38 : decode cX2_add 38 = .ok (.iadd, 1) := by decide +kernel
theorem dX2_add_39 : decode cX2_add 39 = .ok (.putfield 28, 3) := by decide +kernel
theorem dX2_add_42 : decode cX2_add 42 = .ok (.aload_n 0, 1) := by decide +kernel
theorem dX2_add_43 : decode cX2_add 43 = .ok (.getfield 28, 3) := by decide +kernel
theorem dX2_add_46 : decode cX2_add 46 = .ok (.ireturn, 1) := by decide +kernel
theorem dX2_copyFrom_0 : decode cX2_copyFrom 0 = .ok (.aload_n 1, 1) := by decide +kernel
theorem dX2_copyFrom_1 : decode cX2_copyFrom 1 = .ok (.getfield 11, 3) := by decide +kernel
theorem dX2_copyFrom_4 : decode cX2_copyFrom 4 = .ok (.iconst 0, 1) := by decide +kernel
theorem dX2_copyFrom_5 : decode cX2_copyFrom 5 = .ok (.aload_n 0, 1) := by decide +kernel
theorem dX2_copyFrom_6 : decode cX2_copyFrom 6 = .ok (.getfield 11, 3) := by decide +kernel
theorem dX2_copyFrom_9 : decode cX2_copyFrom 9 = .ok (.iconst 0, 1) := by decide +kernel
theorem dX2_copyFrom_10 : decode cX2_copyFrom 10 = .ok (.bipush 8, 2) := by decide +kernel
theorem dX2_copyFrom_12 : decode cX2_copyFrom 12 = .ok (.invokestatic 31, 3) := by decide +kernel
theorem dX2_copyFrom_15 : decode cX2_copyFrom 15 = .ok (.aload_n 1, 1) := by decide +kernel
theorem dX2_copyFrom_16 : decode cX2_copyFrom 16 = .ok (.getfield 15, 3) := by decide +kernel
theorem dX2_copyFrom_19 : decode cX2_copyFrom 19 = .ok (.iconst 0, 1) := by decide +kernel
theorem dX2_copyFrom_20 : decode cX2_copyFrom 20 = .ok (.aload_n 0, 1) := by decide +kernel
theorem dX2_copyFrom_21 : decode cX2_copyFrom 21 = .ok (.getfield 15, 3) := by decide +kernel
theorem dX2_copyFrom_24 : decode cX2_copyFrom 24 = .ok (.iconst 0, 1) := by decide +kernel
theorem dX2_copyFrom_25 : decode cX2_copyFrom 25 = .ok (.bipush 8, 2) := by decide +kernel
theorem dX2_copyFrom_27 : decode cX2_copyFrom 27 = .ok (.invokestatic 31, 3) := by decide +kernel
theorem dX2_copyFrom_30 : decode cX2_copyFrom 30 = .ok (.aload_n 0, 1) := by decide +kernel
theorem dX2_copyFrom_31 : decode cX2_copyFrom 31 = .ok (.aload_n 1, 1) := by decide +kernel
theorem dX2_copyFrom_32 : decode cX2_copyFrom 32 = .ok (.getfield 24, 3) := by decide +kernel
theorem dX2_copyFrom_35 : decode cX2_copyFrom 35 = .ok (.putfield 24, 3) := by decide +kernel
theorem dX2_copyFrom_38 : decode cX2_copyFrom 38 = .ok (.aload_n 0, 1) := by decide +kernel
theorem dX2_copyFrom_39 : decode cX2_copyFrom 39 = .ok (.aload_n 1, 1) := by decide +kernel
theorem dX2_copyFrom_40 : decode cX2_copyFrom 40 = .ok (.getfield 28, 3) := by decide +kernel
theorem dX2_copyFrom_43 : decode cX2_copyFrom 43 = .ok (.putfield 28, 3) := by decide +kernel
theorem dX2_copyFrom_46 : decode cX2_copyFrom 46 = .ok (.return_, 1) := by decide +kernel
theorem dX2_survey_0 : decode cX2_survey 0 = .ok (.iconst 1, 1) := by decide +kernel
theorem dX2_survey_1 : decode cX2_survey 1 = .ok (.aload_n 0, 1) := by decide +kernel
theorem dX2_survey_2 : decode cX2_survey 2 = .ok (.getfield 24, 3) := by decide +kernel
theorem dX2_survey_5 : decode cX2_survey 5 = .ok (.ishl, 1) := by decide +kernel
theorem dX2_survey_6 : decode cX2_survey 6 = .ok (.iconst 1, 1) := by decide +kernel
theorem dX2_survey_7 : decode cX2_survey 7 = .ok (.isub, 1) := by decide +kernel
theorem dX2_survey_8 : decode cX2_survey 8 = .ok (.istore_n 1, 1) := by decide +kernel
theorem dX2_survey_9 : decode cX2_survey 9 = .ok (.aload_n 0, 1) := by decide +kernel
theorem dX2_survey_10 : decode cX2_survey 10 = .ok (.getfield 18, 3) := by decide +kernel
theorem dX2_survey_13 : decode cX2_survey 13 = .ok (.iload_n 1, 1) := by decide +kernel
theorem dX2_survey_14 : decode cX2_survey 14 = .ok (.invokestatic 37, 3) := by decide +kernel
theorem dX2_survey_17 : decode cX2_survey 17 = .ok (.aload_n 0, 1) := by decide +kernel
theorem dX2_survey_18 : decode cX2_survey 18 = .ok (.getfield 21, 3) := by decide +kernel
theorem dX2_survey_21 : decode cX2_survey 21 = .ok (.iconst 0, 1) := by decide +kernel
theorem dX2_survey_22 : decode cX2_survey 22 = .ok (.invokestatic 37, 3) := by decide +kernel
theorem dX2_survey_25 : decode cX2_survey 25 = .ok (.iconst 0, 1) := by decide +kernel
theorem dX2_survey_26 : decode cX2_survey 26 = .ok (.istore_n 2, 1) := by decide +kernel
theorem dX2_survey_27 : decode cX2_survey 27 = .ok (.iload_n 2, 1) := by decide +kernel
theorem dX2_survey_28 : decode cX2_survey 28 = .ok (.aload_n 0, 1) := by decide +kernel
theorem dX2_survey_29 : decode cX2_survey 29 = .ok (.getfield 28, 3) := by decide +kernel
theorem dX2_survey_32 : decode cX2_survey 32 = .ok (.if_icmp .ge 35, 3) := by decide +kernel
theorem dX2_survey_35 : decode cX2_survey 35 = .ok (.iload_n 2, 1) := by decide +kernel
theorem dX2_survey_36 : decode cX2_survey 36 = .ok (.bipush 8, 2) := by decide +kernel
theorem dX2_survey_38 : decode cX2_survey 38 = .ok (.if_icmp .ge 29, 3) := by decide +kernel
theorem dX2_survey_41 : decode cX2_survey 41 = .ok (.aload_n 0, 1) := by decide +kernel
theorem dX2_survey_42 : decode cX2_survey 42 = .ok (.getfield 18, 3) := by decide +kernel
theorem dX2_survey_45 : decode cX2_survey 45 = .ok (.aload_n 0, 1) := by decide +kernel
theorem dX2_survey_46 : decode cX2_survey 46 = .ok (.getfield 11, 3) := by decide +kernel
theorem dX2_survey_49 : decode cX2_survey 49 = .ok (.iload_n 2, 1) := by decide +kernel
theorem dX2_survey_50 : decode cX2_survey 50 = .ok (.iaload, 1) := by decide +kernel
theorem dX2_survey_51 : decode cX2_survey 51 = .ok (.dup2, 1) := by decide +kernel
theorem dX2_survey_52 : decode cX2_survey 52 = .ok (.iaload, 1) := by decide +kernel
theorem dX2_survey_53 : decode cX2_survey 53 = .ok (.aload_n 0, 1) := by decide +kernel
theorem dX2_survey_54 : decode cX2_survey 54 = .ok (.getfield 15, 3) := by decide +kernel
theorem dX2_survey_57 : decode cX2_survey 57 = .ok (.iload_n 2, 1) := by decide +kernel
theorem dX2_survey_58 : decode cX2_survey 58 = .ok (.iaload, 1) := by decide +kernel
theorem dX2_survey_59 : decode cX2_survey 59 = .ok (.iand, 1) := by decide +kernel
theorem dX2_survey_60 : decode cX2_survey 60 = .ok (.iastore, 1) := by decide +kernel
theorem dX2_survey_61 : decode cX2_survey 61 = .ok (.iinc 2 1, 3) := by decide +kernel
theorem dX2_survey_64 : decode cX2_survey 64 = .ok (.goto (-37), 3) := by decide +kernel
theorem dX2_survey_67 : decode cX2_survey 67 = .ok (.aload_n 0, 1) := by decide +kernel
theorem dX2_survey_68 : decode cX2_survey 68 = .ok (.iload_n 1, 1) := by decide +kernel
theorem dX2_survey_69 : decode cX2_survey 69 = .ok (.aload_n 0, 1) := by decide +kernel
theorem dX2_survey_70 : decode cX2_survey 70 = .ok (.getfield 24, 3) := by decide +kernel
theorem dX2_survey_73 : decode cX2_survey 73 = .ok (.iconst 2, 1) := by decide +kernel
theorem dX2_survey_74 : decode cX2_survey 74 = .ok (.idiv, 1) := by decide +kernel
theorem dX2_survey_75 : decode cX2_survey 75 = .ok (.invokevirtual 43, 3) := by decide +kernel
theorem dX2_survey_78 : decode cX2_survey 78 = .ok (.ireturn, 1) := by decide +kernel
theorem dX2_onlyTwin_0 : decode cX2_onlyTwin 0 = .ok (.iload_n 1, 1) := by decide +kernel
theorem dX2_onlyTwin_1 : decode cX2_onlyTwin 1 = .ok (.ifCond .lt 24, 3) := by decide +kernel
theorem dX2_onlyTwin_4 : decode cX2_onlyTwin 4 = .ok (.iload_n 1, 1) := by decide +kernel
theorem dX2_onlyTwin_5 : decode cX2_onlyTwin 5 = .ok (.aload_n 0, 1) := by decide +kernel
theorem dX2_onlyTwin_6 : decode cX2_onlyTwin 6 = .ok (.getfield 24, 3) := by decide +kernel
theorem dX2_onlyTwin_9 : decode cX2_onlyTwin 9 = .ok (.if_icmp .ge 16, 3) := by decide +kernel
theorem dX2_onlyTwin_12 : decode cX2_onlyTwin 12 = .ok (.aload_n 0, 1) := by decide +kernel
theorem dX2_onlyTwin_13 : decode cX2_onlyTwin 13 = .ok (.getfield 21, 3) := by decide +kernel
theorem dX2_onlyTwin_16 : decode cX2_onlyTwin 16 = .ok (.iload_n 1, 1) := by decide +kernel
theorem dX2_onlyTwin_17 : decode cX2_onlyTwin 17 = .ok (.iaload, 1) := by decide +kernel
theorem dX2_onlyTwin_18 : decode cX2_onlyTwin 18 = .ok (.invokestatic 47, 3) := by decide +kernel
theorem dX2_onlyTwin_21 : decode cX2_onlyTwin 21 = .ok (.iconst 1, 1) := by decide +kernel
theorem dX2_onlyTwin_22 : decode cX2_onlyTwin 22 = .ok (.if_icmp .eq 5, 3) := by decide +kernel
theorem dX2_onlyTwin_25 : decode cX2_onlyTwin 25 = .ok (.iconst (-1), 1) := by decide +kernel
theorem dX2_onlyTwin_26 : decode cX2_onlyTwin 26 = .ok (.ireturn, 1) := by decide +kernel
theorem dX2_onlyTwin_27 : decode cX2_onlyTwin 27 = .ok (.aload_n 0, 1) := by decide +kernel
theorem dX2_onlyTwin_28 : decode cX2_onlyTwin 28 = .ok (.getfield 21, 3) := by decide +kernel
theorem dX2_onlyTwin_31 : decode cX2_onlyTwin 31 = .ok (.iload_n 1, 1) := by decide +kernel
theorem dX2_onlyTwin_32 : decode cX2_onlyTwin 32 = .ok (.iaload, 1) := by decide +kernel
theorem dX2_onlyTwin_33 : decode cX2_onlyTwin 33 = .ok (.invokestatic 53, 3) := by decide +kernel
theorem dX2_onlyTwin_36 : decode cX2_onlyTwin 36 = .ok (.ireturn, 1) := by decide +kernel
theorem dX2_pairUp_0 : decode cX2_pairUp 0 = .ok (.iload_n 2, 1) := by decide +kernel
theorem dX2_pairUp_1 : decode cX2_pairUp 1 = .ok (.ifCond .gt 5, 3) := by decide +kernel
theorem dX2_pairUp_4 : decode cX2_pairUp 4 = .ok (.iconst 1, 1) := by decide +kernel
theorem dX2_pairUp_5 : decode cX2_pairUp 5 = .ok (.ireturn, 1) := by decide +kernel
theorem dX2_pairUp_6 : decode cX2_pairUp 6 = .ok (.iload_n 1, 1) := by decide +kernel
theorem dX2_pairUp_7 : decode cX2_pairUp 7 = .ok (.invokestatic 53, 3) := by decide +kernel
theorem dX2_pairUp_10 : decode cX2_pairUp 10 = .ok (.istore_n 3, 1) := by decide +kernel
theorem dX2_pairUp_11 : decode cX2_pairUp 11 = .ok (.iconst 0, 1) := by decide +kernel
theorem dX2_pairUp_12 : decode cX2_pairUp 12 = .ok (.istore 4, 2) := by decide +kernel
theorem dX2_pairUp_14 : decode cX2_pairUp 14 = .ok (.iload_n 3, 1) := by decide +kernel
theorem dX2_pairUp_15 : decode cX2_pairUp 15 = .ok (.iconst 1, 1) := by decide +kernel
theorem dX2_pairUp_16 : decode cX2_pairUp 16 = .ok (.iadd, 1) := by decide +kernel
theorem dX2_pairUp_17 : decode cX2_pairUp 17 = .ok (.istore 5, 2) := by decide +kernel
theorem dX2_pairUp_19 : decode cX2_pairUp 19 = .ok (.iload 5, 2) := by decide +kernel
theorem dX2_pairUp_21 : decode cX2_pairUp 21 = .ok (.bipush 8, 2) := by decide +kernel
theorem dX2_pairUp_23 : decode cX2_pairUp 23 = .ok (.if_icmp .ge 87, 3) := by decide +kernel
theorem dX2_pairUp_26 : decode cX2_pairUp 26 = .ok (.iload_n 1, 1) := by decide +kernel
theorem dX2_pairUp_27 : decode cX2_pairUp 27 = .ok (.iload 5, 2) := by decide +kernel
theorem dX2_pairUp_29 : decode cX2_pairUp 29 = .ok (.invokestatic 56, 3) := by decide +kernel
theorem dX2_pairUp_32 : decode cX2_pairUp 32 = .ok (.ifCond .eq 72, 3) := by decide +kernel
theorem dX2_pairUp_35 : decode cX2_pairUp 35 = .ok (.aload_n 0, 1) := by decide +kernel
theorem dX2_pairUp_36 : decode cX2_pairUp 36 = .ok (.iload_n 3, 1) := by decide +kernel
theorem dX2_pairUp_37 : decode cX2_pairUp 37 = .ok (.iload 5, 2) := by decide +kernel
theorem dX2_pairUp_39 : decode cX2_pairUp 39 = .ok (.invokevirtual 60, 3) := by decide +kernel
theorem dX2_pairUp_42 : decode cX2_pairUp 42 = .ok (.ifCond .eq 62, 3) := by decide +kernel
theorem dX2_pairUp_45 : decode cX2_pairUp 45 = .ok (.aload_n 0, 1) := by decide +kernel
theorem dX2_pairUp_46 : decode cX2_pairUp 46 = .ok (.iload_n 1, 1) := by decide +kernel
theorem dX2_pairUp_47 : decode cX2_pairUp 47 = .ok (.iconst 1, 1) := by decide +kernel
theorem dX2_pairUp_48 : decode cX2_pairUp 48 = .ok (.iload_n 3, 1) := by decide +kernel
theorem dX2_pairUp_49 : decode cX2_pairUp 49 = .ok (.ishl, 1) := by decide +kernel
theorem dX2_pairUp_50 : decode cX2_pairUp 50 = .ok (.iconst 1, 1) := by decide +kernel
theorem dX2_pairUp_51 : decode cX2_pairUp 51 = .ok (.iload 5, 2) := by decide +kernel
theorem dX2_pairUp_53 : decode cX2_pairUp 53 = .ok (.ishl, 1) := by decide +kernel
theorem dX2_pairUp_54 : decode cX2_pairUp 54 = .ok (.ior, 1) := by decide +kernel
theorem dX2_pairUp_55 : decode cX2_pairUp 55 = .ok (.iconst (-1), 1) := by decide +kernel
theorem dX2_pairUp_56 : decode cX2_pairUp 56 = .ok (.ixor, 1) := by decide +kernel
theorem dX2_pairUp_57 : decode cX2_pairUp 57 = .ok (.iand, 1) := by decide +kernel
theorem dX2_pairUp_58 : decode cX2_pairUp 58 = .ok (.iload_n 2, 1) := by decide +kernel
theorem dX2_pairUp_59 : decode cX2_pairUp 59 = .ok (.iconst 1, 1) := by decide +kernel
theorem dX2_pairUp_60 : decode cX2_pairUp 60 = .ok (.isub, 1) := by decide +kernel
theorem dX2_pairUp_61 : decode cX2_pairUp 61 = .ok (.invokevirtual 43, 3) := by decide +kernel
theorem dX2_pairUp_64 : decode cX2_pairUp 64 = .ok (.istore 6, 2) := by decide +kernel
theorem dX2_pairUp_66 : decode cX2_pairUp 66 = .ok (.iload 6, 2) := by decide +kernel
theorem dX2_pairUp_68 : decode cX2_pairUp 68 = .ok (.ifCond .le 29, 3) := by decide +kernel
theorem dX2_pairUp_71 : decode cX2_pairUp 71 = .ok (.aload_n 0, 1) := by decide +kernel
theorem dX2_pairUp_72 : decode cX2_pairUp 72 = .ok (.getfield 21, 3) := by decide +kernel
theorem dX2_pairUp_75 : decode cX2_pairUp 75 = .ok (.iload_n 3, 1) := by decide +kernel
theorem dX2_pairUp_76 : decode cX2_pairUp 76 = .ok (.dup2, 1) := by decide +kernel
theorem dX2_pairUp_77 : decode cX2_pairUp 77 = .ok (.iaload, 1) := by decide +kernel
theorem dX2_pairUp_78 : decode cX2_pairUp 78 = .ok (.iconst 1, 1) := by decide +kernel
theorem dX2_pairUp_79 : decode cX2_pairUp 79 = .ok (.iload 5, 2) := by decide +kernel
theorem dX2_pairUp_81 : decode cX2_pairUp 81 = .ok (.ishl, 1) := by decide +kernel
theorem dX2_pairUp_82 : decode cX2_pairUp 82 = .ok (.ior, 1) := by decide +kernel
theorem dX2_pairUp_83 : decode cX2_pairUp 83 = .ok (.iastore, 1) := by decide +kernel
theorem dX2_pairUp_84 : decode cX2_pairUp 84 = .ok (.aload_n 0, 1) := by decide +kernel
theorem dX2_pairUp_85 : decode cX2_pairUp 85 = .ok (.getfield 21, 3) := by decide +kernel
theorem dX2_pairUp_88 : decode cX2_pairUp 88 = .ok (.iload 5, 2) := by decide +kernel
theorem dX2_pairUp_90 : decode cX2_pairUp 90 = .ok (.dup2, 1) := by decide +kernel
theorem dX2_pairUp_91 : decode cX2_pairUp 91 = .ok (.iaload, 1) := by decide +kernel
theorem dX2_pairUp_92 : decode cX2_pairUp 92 = .ok (.iconst 1, 1) := by decide +kernel
theorem dX2_pairUp_93 : decode cX2_pairUp 93 = .ok (.iload_n 3, 1) := by decide +kernel
theorem dX2_pairUp_94 : decode cX2_pairUp 94 = .ok (.ishl, 1) := by decide +kernel
theorem dX2_pairUp_95 : decode cX2_pairUp 95 = .ok (.ior, 1) := by decide +kernel
theorem dX2_pairUp_96 : decode cX2_pairUp 96 = .ok (.iastore, 1) := by decide +kernel
theorem dX2_pairUp_97 : decode cX2_pairUp 97 = .ok (.iload 4, 2) := by decide +kernel
theorem dX2_pairUp_99 : decode cX2_pairUp 99 = .ok (.iload 6, 2) := by decide +kernel
theorem dX2_pairUp_101 : decode cX2_pairUp 101 = .ok (.iadd, 1) := by decide +kernel
theorem dX2_pairUp_102 : decode cX2_pairUp 102 = .ok (.istore 4, 2) := by decide +kernel
theorem dX2_pairUp_104 : decode cX2_pairUp 104 = .ok (.iinc 5 1, 3) := by decide +kernel
theorem dX2_pairUp_107 : decode cX2_pairUp 107 = .ok (.goto (-88), 3) := by decide +kernel
theorem dX2_pairUp_110 : decode cX2_pairUp 110 = .ok (.iload 4, 2) := by decide +kernel
theorem dX2_pairUp_112 : decode cX2_pairUp 112 = .ok (.ireturn, 1) := by decide +kernel
theorem dX2_mayBeTwins_0 : decode cX2_mayBeTwins 0 = .ok (.aload_n 0, 1) := by decide +kernel
theorem dX2_mayBeTwins_1 : decode cX2_mayBeTwins 1 = .ok (.getfield 18, 3) := by decide +kernel
theorem dX2_mayBeTwins_4 : decode cX2_mayBeTwins 4 = .ok (.iload_n 1, 1) := by decide +kernel
theorem dX2_mayBeTwins_5 : decode cX2_mayBeTwins 5 = .ok (.iaload, 1) := by decide +kernel
theorem dX2_mayBeTwins_6 : decode cX2_mayBeTwins 6 = .ok (.iload_n 2, 1) := by decide +kernel
theorem dX2_mayBeTwins_7 : decode cX2_mayBeTwins 7 = .ok (.invokestatic 56, 3) := by decide +kernel
theorem dX2_mayBeTwins_10 : decode cX2_mayBeTwins 10 = .ok (.ifCond .eq 20, 3) := by decide +kernel
theorem dX2_mayBeTwins_13 : decode cX2_mayBeTwins 13 = .ok (.aload_n 0, 1) := by decide +kernel
theorem dX2_mayBeTwins_14 : decode cX2_mayBeTwins 14 = .ok (.getfield 18, 3) := by decide +kernel
theorem dX2_mayBeTwins_17 : decode cX2_mayBeTwins 17 = .ok (.iload_n 2, 1) := by decide +kernel
theorem dX2_mayBeTwins_18 : decode cX2_mayBeTwins 18 = .ok (.iaload, 1) := by decide +kernel
theorem dX2_mayBeTwins_19 : decode cX2_mayBeTwins 19 = .ok (.iload_n 1, 1) := by decide +kernel
theorem dX2_mayBeTwins_20 : decode cX2_mayBeTwins 20 = .ok (.invokestatic 56, 3) := by decide +kernel
theorem dX2_mayBeTwins_23 : decode cX2_mayBeTwins 23 = .ok (.ifCond .eq 7, 3) := by decide +kernel
theorem dX2_mayBeTwins_26 : decode cX2_mayBeTwins 26 = .ok (.iconst 1, 1) := by decide +kernel
theorem dX2_mayBeTwins_27 : decode cX2_mayBeTwins 27 = .ok (.goto 4, 3) := by decide +kernel
theorem dX2_mayBeTwins_30 : decode cX2_mayBeTwins 30 = .ok (.iconst 0, 1) := by decide +kernel
theorem dX2_mayBeTwins_31 : decode cX2_mayBeTwins 31 = .ok (.ireturn, 1) := by decide +kernel
theorem dX2_firstOf_0 : decode cX2_firstOf 0 = .ok (.iconst 0, 1) := by decide +kernel
theorem dX2_firstOf_1 : decode cX2_firstOf 1 = .ok (.istore_n 1, 1) := by decide +kernel
theorem dX2_firstOf_2 : decode cX2_firstOf 2 = .ok (.iload_n 1, 1) := by decide +kernel
theorem dX2_firstOf_3 : decode cX2_firstOf 3 = .ok (.bipush 7, 2) := by decide +kernel
theorem dX2_firstOf_5 : decode cX2_firstOf 5 = .ok (.if_icmp .ge 19, 3) := by decide +kernel
theorem dX2_firstOf_8 : decode cX2_firstOf 8 = .ok (.iload_n 0, 1) := by decide +kernel
theorem dX2_firstOf_9 : decode cX2_firstOf 9 = .ok (.iload_n 1, 1) := by decide +kernel
theorem dX2_firstOf_10 : decode cX2_firstOf 10 = .ok (.invokestatic 56, 3) := by decide +kernel
theorem dX2_firstOf_13 : decode cX2_firstOf 13 = .ok (.ifCond .eq 5, 3) := by decide +kernel
theorem dX2_firstOf_16 : decode cX2_firstOf 16 = .ok (.iload_n 1, 1) := by decide +kernel
theorem dX2_firstOf_17 : decode cX2_firstOf 17 = .ok (.ireturn, 1) := by decide +kernel
theorem dX2_firstOf_18 : decode cX2_firstOf 18 = .ok (.iinc 1 1, 3) := by decide +kernel
theorem dX2_firstOf_21 : decode cX2_firstOf 21 = .ok (.goto (-19), 3) := by decide +kernel
theorem dX2_firstOf_24 : decode cX2_firstOf 24 = .ok (.bipush 7, 2) := by decide +kernel
theorem dX2_firstOf_26 : decode cX2_firstOf 26 = .ok (.ireturn, 1) := by decide +kernel
theorem dX3_init_0 : decode cX3_init 0 = .ok (.aload_n 0, 1) := by decide +kernel
theorem dX3_init_1 : decode cX3_init 1 = .ok (.invokespecial 3, 3) := by decide +kernel
theorem dX3_init_4 : decode cX3_init 4 = .ok (.aload_n 0, 1) := by decide +kernel
theorem dX3_init_5 : decode cX3_init 5 = .ok (.new 9, 3) := by decide +kernel
theorem dX3_init_8 : decode cX3_init 8 = .ok (.dup, 1) := by decide +kernel
theorem dX3_init_9 : decode cX3_init 9 = .ok (.invokespecial 11, 3) := by decide +kernel
theorem dX3_init_12 : decode cX3_init 12 = .ok (.putfield 12, 3) := by decide +kernel
theorem dX3_init_15 : decode cX3_init 15 = .ok (.aload_n 0, 1) := by decide +kernel
theorem dX3_init_16 : decode cX3_init 16 = .ok (.bipush 10, 2) := by decide +kernel
theorem dX3_init_18 : decode cX3_init 18 = .ok (.newarray .int, 2) := by decide +kernel
theorem dX3_init_20 : decode cX3_init 20 = .ok (.putfield 18, 3) := by decide +kernel
theorem dX3_init_23 : decode cX3_init 23 = .ok (.aload_n 0, 1) := by decide +kernel
theorem dX3_init_24 : decode cX3_init 24 = .ok (.new 22, 3) := by decide +kernel
theorem dX3_init_27 : decode cX3_init 27 = .ok (.dup, 1) := by decide +kernel
theorem dX3_init_28 : decode cX3_init 28 = .ok (.invokespecial 24, 3) := by decide +kernel
theorem dX3_init_31 : decode cX3_init 31 = .ok (.putfield 25, 3) := by decide +kernel
theorem dX3_init_34 : decode cX3_init 34 = .ok (.aload_n 0, 1) := by decide +kernel
theorem dX3_init_35 : decode cX3_init 35 = .ok (.new 29, 3) := by decide +kernel
theorem dX3_init_38 : decode cX3_init 38 = .ok (.dup, 1) := by decide +kernel
theorem dX3_init_39 : decode cX3_init 39 = .ok (.invokespecial 31, 3) := by decide +kernel
theorem dX3_init_42 : decode cX3_init 42 = .ok (.putfield 32, 3) := by decide +kernel
theorem dX3_init_45 : decode cX3_init 45 = .ok (.return_, 1) := by decide +kernel
theorem dX3_isGood_0 : decode cX3_isGood 0 = .ok (.aload_n 0, 1) := by decide +kernel
theorem dX3_isGood_1 : decode cX3_isGood 1 = .ok (.getfield 36, 3) := by decide +kernel
theorem dX3_isGood_4 : decode cX3_isGood 4 = .ok (.ireturn, 1) := by decide +kernel
theorem dX3_spoil_0 : decode cX3_spoil 0 = .ok (.aload_n 0, 1) := by decide +kernel
theorem dX3_spoil_1 : decode cX3_spoil 1 = .ok (.iconst 0, 1) := by decide +kernel
theorem dX3_spoil_2 : decode cX3_spoil 2 = .ok (.putfield 36, 3) := by decide +kernel
theorem dX3_spoil_5 : decode cX3_spoil 5 = .ok (.return_, 1) := by decide +kernel
theorem dX3_keep_0 : decode cX3_keep 0 = .ok (.aload_n 0, 1) := by decide +kernel
theorem dX3_keep_1 : decode cX3_keep 1 = .ok (.getfield 12, 3) := by decide +kernel
theorem dX3_keep_4 : decode cX3_keep 4 = .ok (.aload_n 1, 1) := by decide +kernel
theorem dX3_keep_5 : decode cX3_keep 5 = .ok (.invokevirtual 40, 3) := by decide +kernel
theorem dX3_keep_8 : decode cX3_keep 8 = .ok (.aload_n 2, 1) := by decide +kernel
theorem dX3_keep_9 : decode cX3_keep 9 = .ok (.iconst 0, 1) := by decide +kernel
theorem dX3_keep_10 : decode cX3_keep 10 = .ok (.aload_n 0, 1) := by decide +kernel
theorem dX3_keep_11 : decode cX3_keep 11 = .ok (.getfield 18, 3) := by decide +kernel
theorem dX3_keep_14 : decode cX3_keep 14 = .ok (.iconst 0, 1) := by decide +kernel
theorem dX3_keep_15 : decode cX3_keep 15 = .ok (.bipush 10, 2) := by decide +kernel
theorem dX3_keep_17 : decode cX3_keep 17 = .ok (.invokestatic 44, 3) := by decide +kernel
theorem dX3_keep_20 : decode cX3_keep 20 = .ok (.aload_n 0, 1) := by decide +kernel
theorem dX3_keep_21 : decode cX3_keep 21 = .ok (.getfield 25, 3) := by decide +kernel
theorem dX3_keep_24 : decode cX3_keep 24 = .ok (.aload_n 3, 1) := by decide +kernel
theorem dX3_keep_25 : decode cX3_keep 25 = .ok (.invokevirtual 50, 3) := by decide +kernel
theorem dX3_keep_28 : decode cX3_keep 28 = .ok (.aload_n 0, 1) := by decide +kernel
theorem dX3_keep_29 : decode cX3_keep 29 = .ok (.getfield 32, 3) := by decide +kernel
theorem dX3_keep_32 : decode cX3_keep 32 = .ok (.aload 4, 2) := by decide +kernel
theorem dX3_keep_34 : decode cX3_keep 34 = .ok (.invokevirtual 53, 3) := by decide +kernel
theorem dX3_keep_37 : decode cX3_keep 37 = .ok (.aload_n 0, 1) := by decide +kernel
theorem dX3_keep_38 : decode cX3_keep 38 = .ok (.iconst 1, 1) := by decide +kernel
theorem dX3_keep_39 : decode cX3_keep 39 = .ok (.putfield 36, 3) := by decide +kernel
theorem dX3_keep_42 : decode cX3_keep 42 = .ok (.return_, 1) := by decide +kernel
theorem dX3_giveBack_0 : decode cX3_giveBack 0 = .ok (.aload_n 1, 1) := by decide +kernel
theorem dX3_giveBack_1 : decode cX3_giveBack 1 = .ok (.aload_n 0, 1) := by decide +kernel
theorem dX3_giveBack_2 : decode cX3_giveBack 2 = .ok (.getfield 12, 3) := by decide +kernel
theorem dX3_giveBack_5 : decode cX3_giveBack 5 = .ok (.invokevirtual 40, 3) := by decide +kernel
theorem dX3_giveBack_8 : decode cX3_giveBack 8 = .ok (.aload_n 0, 1) := by decide +kernel
theorem dX3_giveBack_9 : decode cX3_giveBack 9 = .ok (.getfield 18, 3) := by decide +kernel
theorem dX3_giveBack_12 : decode cX3_giveBack 12 = .ok (.iconst 0, 1) := by decide +kernel
theorem dX3_giveBack_13 : decode cX3_giveBack 13 = .ok (.aload_n 2, 1) := by decide +kernel
theorem dX3_giveBack_14 : decode cX3_giveBack 14 = .ok (.iconst 0, 1) := by decide +kernel
theorem dX3_giveBack_15 : decode cX3_giveBack 15 = .ok (.bipush 10, 2) := by decide +kernel
theorem dX3_giveBack_17 : decode cX3_giveBack 17 = .ok (.invokestatic 44, 3) := by decide +kernel
theorem dX3_giveBack_20 : decode cX3_giveBack 20 = .ok (.aload_n 3, 1) := by decide +kernel
theorem dX3_giveBack_21 : decode cX3_giveBack 21 = .ok (.aload_n 0, 1) := by decide +kernel
theorem dX3_giveBack_22 : decode cX3_giveBack 22 = .ok (.getfield 25, 3) := by decide +kernel
theorem dX3_giveBack_25 : decode cX3_giveBack 25 = .ok (.invokevirtual 50, 3) := by decide +kernel
theorem dX3_giveBack_28 : decode cX3_giveBack 28 = .ok (.aload 4, 2) := by decide +kernel
theorem dX3_giveBack_30 : decode cX3_giveBack 30 = .ok (.aload_n 0, 1) := by decide +kernel
theorem dX3_giveBack_31 : decode cX3_giveBack 31 = .ok (.getfield 32, 3) := by decide +kernel
theorem dX3_giveBack_34 : decode cX3_giveBack 34 = .ok (.invokevirtual 53, 3) := by decide +kernel
theorem dX3_giveBack_37 : decode cX3_giveBack 37 = .ok (.return_, 1) := by decide +kernel
theorem dX4_init_0 : decode cX4_init 0 = .ok (.aload_n 0, 1) := by decide +kernel
theorem dX4_init_1 : decode cX4_init 1 = .ok (.invokespecial 3, 3) := by decide +kernel
theorem dX4_init_4 : decode cX4_init 4 = .ok (.aload_n 0, 1) := by decide +kernel
theorem dX4_init_5 : decode cX4_init 5 = .ok (.bipush 36, 2) := by decide +kernel
theorem dX4_init_7 : decode cX4_init 7 = .ok (.newarray .int, 2) := by decide +kernel
theorem dX4_init_9 : decode cX4_init 9 = .ok (.putfield 9, 3) := by decide +kernel
theorem dX4_init_12 : decode cX4_init 12 = .ok (.aload_n 0, 1) := by decide +kernel
theorem dX4_init_13 : decode cX4_init 13 = .ok (.new 15, 3) := by decide +kernel
theorem dX4_init_16 : decode cX4_init 16 = .ok (.dup, 1) := by decide +kernel
theorem dX4_init_17 : decode cX4_init 17 = .ok (.invokespecial 17, 3) := by decide +kernel
theorem dX4_init_20 : decode cX4_init 20 = .ok (.putfield 18, 3) := by decide +kernel
theorem dX4_init_23 : decode cX4_init 23 = .ok (.aload_n 0, 1) := by decide +kernel
theorem dX4_init_24 : decode cX4_init 24 = .ok (.new 15, 3) := by decide +kernel
theorem dX4_init_27 : decode cX4_init 27 = .ok (.dup, 1) := by decide +kernel
theorem dX4_init_28 : decode cX4_init 28 = .ok (.invokespecial 17, 3) := by decide +kernel
theorem dX4_init_31 : decode cX4_init 31 = .ok (.putfield 22, 3) := by decide +kernel
theorem dX4_init_34 : decode cX4_init 34 = .ok (.aload_n 0, 1) := by decide +kernel
theorem dX4_init_35 : decode cX4_init 35 = .ok (.iconst 4, 1) := by decide +kernel
theorem dX4_init_36 : decode cX4_init 36 = .ok (.newarray .int, 2) := by decide +kernel
theorem dX4_init_38 : decode cX4_init 38 = .ok (.putfield 25, 3) := by decide +kernel
theorem dX4_init_41 : decode cX4_init 41 = .ok (.return_, 1) := by decide +kernel
theorem dX4_setRoad_0 : decode cX4_setRoad 0 = .ok (.aload_n 0, 1) := by decide +kernel
theorem dX4_setRoad_1 : decode cX4_setRoad 1 = .ok (.getfield 9, 3) := by decide +kernel
theorem dX4_setRoad_4 : decode cX4_setRoad 4 = .ok (.iload_n 1, 1) := by decide +kernel
theorem dX4_setRoad_5 : decode cX4_setRoad 5 = .ok (.bipush 6, 2) := by decide +kernel
theorem dX4_setRoad_7 : decode cX4_setRoad 7 = .ok (.imul, 1) := by decide +kernel
theorem dX4_setRoad_8 : decode cX4_setRoad 8 = .ok (.iload_n 2, 1) := by decide +kernel
theorem dX4_setRoad_9 : decode cX4_setRoad 9 = .ok (.iadd, 1) := by decide +kernel
theorem dX4_setRoad_10 : decode cX4_setRoad 10 = .ok (.iaload, 1) := by decide +kernel
theorem dX4_setRoad_11 : decode cX4_setRoad 11 = .ok (.istore 4, 2) := by decide +kernel
theorem dX4_setRoad_13 : decode cX4_setRoad 13 = .ok (.aload_n 0, 1) := by decide +kernel
theorem dX4_setRoad_14 : decode cX4_setRoad 14 = .ok (.getfield 9, 3) := by decide +kernel
theorem dX4_setRoad_17 : decode cX4_setRoad 17 = .ok (.iload_n 1, 1) := by decide +kernel
theorem dX4_setRoad_18 : decode cX4_setRoad 18 = .ok (.bipush 6, 2) := by decide +kernel
theorem dX4_setRoad_20 : decode cX4_setRoad 20 = .ok (.imul, 1) := by decide +kernel
theorem dX4_setRoad_21 : decode cX4_setRoad 21 = .ok (.iload_n 2, 1) := by decide +kernel
theorem dX4_setRoad_22 : decode cX4_setRoad 22 = .ok (.iadd, 1) := by decide +kernel
theorem dX4_setRoad_23 : decode cX4_setRoad 23 = .ok (.iload_n 3, 1) := by decide +kernel
theorem dX4_setRoad_24 : decode cX4_setRoad 24 = .ok (.iastore, 1) := by decide +kernel
theorem dX4_setRoad_25 : decode cX4_setRoad 25 = .ok (.aload_n 0, 1) := by decide +kernel
theorem dX4_setRoad_26 : decode cX4_setRoad 26 = .ok (.getfield 9, 3) := by decide +kernel
theorem dX4_setRoad_29 : decode cX4_setRoad 29 = .ok (.iload_n 2, 1) := by decide +kernel
theorem dX4_setRoad_30 : decode cX4_setRoad 30 = .ok (.bipush 6, 2) := by decide +kernel
theorem dX4_setRoad_32 : decode cX4_setRoad 32 = .ok (.imul, 1) := by decide +kernel
theorem dX4_setRoad_33 : decode cX4_setRoad 33 = .ok (.iload_n 1, 1) := by decide +kernel
theorem dX4_setRoad_34 : decode cX4_setRoad 34 = .ok (.iadd, 1) := by decide +kernel
theorem dX4_setRoad_35 : decode cX4_setRoad 35 = .ok (.iload_n 3, 1) := by decide +kernel
theorem dX4_setRoad_36 : decode cX4_setRoad 36 = .ok (.iastore, 1) := by decide +kernel
theorem dX4_setRoad_37 : decode cX4_setRoad 37 = .ok (.iload 4, 2) := by decide +kernel
theorem dX4_setRoad_39 : decode cX4_setRoad 39 = .ok (.ireturn, 1) := by decide +kernel
theorem dX4_roads_0 : decode cX4_roads 0 = .ok (.iconst 0, 1) := by decide +kernel
theorem dX4_roads_1 : decode cX4_roads 1 = .ok (.istore_n 1, 1) := by decide +kernel
theorem dX4_roads_2 : decode cX4_roads 2 = .ok (.iconst 0, 1) := by decide +kernel
theorem dX4_roads_3 : decode cX4_roads 3 = .ok (.istore_n 2, 1) := by decide +kernel
theorem dX4_roads_4 : decode cX4_roads 4 = .ok (.iload_n 2, 1) := by decide +kernel
theorem dX4_roads_5 : decode cX4_roads 5 = .ok (.aload_n 0, 1) := by decide +kernel
theorem dX4_roads_6 : decode cX4_roads 6 = .ok (.getfield 9, 3) := by decide +kernel
theorem dX4_roads_9 : decode cX4_roads 9 = .ok (.arraylength, 1) := by decide +kernel
theorem dX4_roads_10 : decode cX4_roads 10 = .ok (.if_icmp .ge 21, 3) := by decide +kernel
theorem dX4_roads_13 : decode cX4_roads 13 = .ok (.aload_n 0, 1) := by decide +kernel
theorem dX4_roads_14 : decode cX4_roads 14 = .ok (.getfield 9, 3) := by decide +kernel
theorem dX4_roads_17 : decode cX4_roads 17 = .ok (.iload_n 2, 1) := by decide +kernel
theorem dX4_roads_18 : decode cX4_roads 18 = .ok (.iaload, 1) := by decide +kernel
theorem dX4_roads_19 : decode cX4_roads 19 = .ok (.ifCond .eq 6, 3) := by decide +kernel
theorem dX4_roads_22 : decode cX4_roads 22 = .ok (.iinc 1 1, 3) := by decide +kernel
theorem dX4_roads_25 : decode cX4_roads 25 = .ok (.iinc 2 1, 3) := by decide +kernel
theorem dX4_roads_28 : decode cX4_roads 28 = .ok (.goto (-24), 3) := by decide +kernel
theorem dX4_roads_31 : decode cX4_roads 31 = .ok (.iload_n 1, 1) := by decide +kernel
theorem dX4_roads_32 : decode cX4_roads 32 = .ok (.iconst 2, 1) := by decide +kernel
theorem dX4_roads_33 : decode cX4_roads 33 = .ok (.idiv, 1) := by decide +kernel
theorem dX4_roads_34 : decode cX4_roads 34 = .ok (.ireturn, 1) := by decide +kernel
theorem dX4_reckon_0 : decode cX4_reckon 0 = .ok (.aload_n 0, 1) := by decide +kernel
theorem dX4_reckon_1 : decode cX4_reckon 1 = .ok (.getfield 18, 3) := by decide +kernel
theorem dX4_reckon_4 : decode cX4_reckon 4 = .ok (.invokevirtual 28, 3) := by decide +kernel
theorem dX4_reckon_7 : decode cX4_reckon 7 = .ok (.iconst 0, 1) := by decide +kernel
theorem dX4_reckon_8 : decode cX4_reckon 8 = .ok (.istore 4, 2) := by decide +kernel
theorem dX4_reckon_10 : decode cX4_reckon 10 = .ok (.iload 4, 2) := by decide +kernel
theorem dX4_reckon_12 : decode cX4_reckon 12 = .ok (.bipush 6, 2) := by decide +kernel
theorem dX4_reckon_14 : decode cX4_reckon 14 = .ok (.if_icmp .ge 58, 3) := by decide +kernel
theorem dX4_reckon_17 : decode cX4_reckon 17 = .ok (.iconst 0, 1) := by decide +kernel
theorem dX4_reckon_18 : decode cX4_reckon 18 = .ok (.istore 5, 2) := by decide +kernel
theorem dX4_reckon_20 : decode cX4_reckon 20 = .ok (.iload 5, 2) := by decide +kernel
theorem dX4_reckon_22 : decode cX4_reckon 22 = .ok (.bipush 6, 2) := by decide +kernel
theorem dX4_reckon_24 : decode cX4_reckon 24 = .ok (.if_icmp .ge 42, 3) := by decide +kernel
theorem dX4_reckon_27 : decode cX4_reckon 27 = .ok (.aload_n 0, 1) := by decide +kernel
theorem dX4_reckon_28 : decode cX4_reckon 28 = .ok (.getfield 9, 3) := by decide +kernel
theorem dX4_reckon_31 : decode cX4_reckon 31 = .ok (.iload 4, 2) := by decide +kernel
theorem dX4_reckon_33 : decode cX4_reckon 33 = .ok (.bipush 6, 2) := by decide +kernel
theorem dX4_reckon_35 : decode cX4_reckon 35 = .ok (.imul, 1) := by decide +kernel
theorem dX4_reckon_36 : decode cX4_reckon 36 = .ok (.iload 5, 2) := by decide +kernel
theorem dX4_reckon_38 : decode cX4_reckon 38 = .ok (.iadd, 1) := by decide +kernel
theorem dX4_reckon_39 : decode cX4_reckon 39 = .ok (.iaload, 1) := by decide +kernel
theorem dX4_reckon_40 : decode cX4_reckon 40 = .ok (.istore 6, 2) := by decide +kernel
theorem dX4_reckon_42 : decode cX4_reckon 42 = .ok (.iload 6, 2) := by decide +kernel
theorem dX4_reckon_44 : decode cX4_reckon 44 = .ok (.ifCond .eq 16, 3) := by decide +kernel
theorem dX4_reckon_47 : decode cX4_reckon 47 = .ok (.aload_n 0, 1) := by decide +kernel
theorem dX4_reckon_48 : decode cX4_reckon 48 = .ok (.getfield 18, 3) := by decide +kernel
theorem dX4_reckon_51 : decode cX4_reckon 51 = .ok (.iload 4, 2) := by decide +kernel
theorem dX4_reckon_53 : decode cX4_reckon 53 = .ok (.iload 5, 2) := by decide +kernel
theorem dX4_reckon_55 : decode cX4_reckon 55 = .ok (.iload 6, 2) := by decide +kernel
theorem dX4_reckon_57 : decode cX4_reckon 57 = .ok (.invokevirtual 31, 3) := by decide +kernel
theorem dX4_reckon_60 : decode cX4_reckon 60 = .ok (.iinc 5 1, 3) := by decide +kernel
theorem dX4_reckon_63 : decode cX4_reckon 63 = .ok (.goto (-43), 3) := by decide +kernel
theorem dX4_reckon_66 : decode cX4_reckon 66 = .ok (.iinc 4 1, 3) := by decide +kernel
theorem dX4_reckon_69 : decode cX4_reckon 69 = .ok (.goto (-59), 3) := by decide +kernel
theorem dX4_reckon_72 : decode cX4_reckon 72 = .ok (.iconst 0, 1) := by decide +kernel
theorem dX4_reckon_73 : decode cX4_reckon 73 = .ok (.istore 4, 2) := by decide +kernel
theorem dX4_reckon_75 : decode cX4_reckon 75 = .ok (.iload 4, 2) := by decide +kernel
theorem dX4_reckon_77 : decode cX4_reckon 77 = .ok (.aload_n 1, 1) := by decide +kernel
theorem dX4_reckon_78 : decode cX4_reckon 78 = .ok (.invokevirtual 35, 3) := by decide +kernel
theorem dX4_reckon_81 : decode cX4_reckon 81 = .ok (.if_icmp .ge 47, 3) := by decide +kernel
theorem dX4_reckon_84 : decode cX4_reckon 84 = .ok (.aload_n 1, 1) := by decide +kernel
theorem dX4_reckon_85 : decode cX4_reckon 85 = .ok (.iload 4, 2) := by decide +kernel
theorem dX4_reckon_87 : decode cX4_reckon 87 = .ok (.invokevirtual 41, 3) := by decide +kernel
theorem dX4_reckon_90 : decode cX4_reckon 90 = .ok (.astore 5, 2) := by decide +kernel
theorem dX4_reckon_92 : decode cX4_reckon 92 = .ok (.aload 5, 2) := by decide +kernel
theorem dX4_reckon_94 : decode cX4_reckon 94 = .ok (.ifnull 28, 3) := by decide +kernel
theorem dX4_reckon_97 : decode cX4_reckon 97 = .ok (.aload 5, 2) := by decide +kernel
theorem dX4_reckon_99 : decode cX4_reckon 99 = .ok (.iconst 2, 1) := by decide +kernel
theorem dX4_reckon_100 : decode cX4_reckon 100 = .ok (.invokevirtual 45, 3) := by decide +kernel
theorem dX4_reckon_103 : decode cX4_reckon 103 = .ok (.ifCond .ne 19, 3) := by decide +kernel
theorem dX4_reckon_106 : decode cX4_reckon 106 = .ok (.aload 5, 2) := by decide +kernel
theorem dX4_reckon_108 : decode cX4_reckon 108 = .ok (.iload_n 3, 1) := by decide +kernel
theorem dX4_reckon_109 : decode cX4_reckon 109 = .ok (.invokevirtual 51, 3) := by decide +kernel
theorem dX4_reckon_112 : decode cX4_reckon 112 = .ok (.ifCond .ne 10, 3) := by decide +kernel
theorem dX4_reckon_115 : decode cX4_reckon 115 = .ok (.aload_n 0, 1) := by decide +kernel
theorem dX4_reckon_116 : decode cX4_reckon 116 = .ok (.aload 5, 2) := by decide +kernel
theorem dX4_reckon_118 : decode cX4_reckon 118 = .ok (.aload_n 2, 1) := by decide +kernel
theorem dX4_reckon_119 : decode cX4_reckon 119 = .ok (.invokevirtual 54, 3) := by decide +kernel
theorem dX4_reckon_122 : decode cX4_reckon 122 = .ok (.iinc 4 1, 3) := by decide +kernel
theorem dX4_reckon_125 : decode cX4_reckon 125 = .ok (.goto (-50), 3) := by decide +kernel
theorem dX4_reckon_128 : decode cX4_reckon 128 = .ok (.aload_n 0, 1) := by decide +kernel
theorem dX4_reckon_129 : decode cX4_reckon 129 = .ok (.getfield 18, 3) := by decide +kernel
theorem dX4_reckon_132 : decode cX4_reckon 132 = .ok (.invokevirtual 58, 3) := by decide +kernel
theorem dX4_reckon_135 : decode cX4_reckon 135 = .ok (.return_, 1) := by decide +kernel
theorem dX4_addPinches_0 : decode cX4_addPinches 0 = .ok (.iconst 0, 1) := by decide +kernel
theorem dX4_addPinches_1 : decode cX4_addPinches 1 = .ok (.istore_n 3, 1) := by decide +kernel
theorem dX4_addPinches_2 : decode cX4_addPinches 2 = .ok (.iload_n 3, 1) := by decide +kernel
theorem dX4_addPinches_3 : decode cX4_addPinches 3 = .ok (.aload_n 1, 1) := by decide +kernel
theorem dX4_addPinches_4 : decode cX4_addPinches 4 = .ok (.invokevirtual 61, 3) := by decide +kernel
theorem dX4_addPinches_7 : decode cX4_addPinches 7 = .ok (.if_icmp .ge 88, 3) := by decide +kernel
theorem dX4_addPinches_10 : decode cX4_addPinches 10 = .ok (.iconst 0, 1) := by decide +kernel
theorem dX4_addPinches_11 : decode cX4_addPinches 11 = .ok (.istore 4, 2) := by decide +kernel
theorem dX4_addPinches_13 : decode cX4_addPinches 13 = .ok (.iload 4, 2) := by decide +kernel
theorem dX4_addPinches_15 : decode cX4_addPinches 15 = .ok (.aload_n 1, 1) := by decide +kernel
theorem dX4_addPinches_16 : decode cX4_addPinches 16 = .ok (.invokevirtual 61, 3) := by decide +kernel
theorem dX4_addPinches_19 : decode cX4_addPinches 19 = .ok (.if_icmp .ge 70, 3) := by decide +kernel
theorem dX4_addPinches_22 : decode cX4_addPinches 22 = .ok (.aload_n 1, 1) := by decide +kernel
theorem dX4_addPinches_23 : decode cX4_addPinches 23 = .ok (.iload_n 3, 1) := by decide +kernel
theorem dX4_addPinches_24 : decode cX4_addPinches 24 = .ok (.invokevirtual 62, 3) := by decide +kernel
theorem dX4_addPinches_27 : decode cX4_addPinches 27 = .ok (.istore 5, 2) := by decide +kernel
theorem dX4_addPinches_29 : decode cX4_addPinches 29 = .ok (.aload_n 1, 1) := by decide +kernel
theorem dX4_addPinches_30 : decode cX4_addPinches 30 = .ok (.iload 4, 2) := by decide +kernel
theorem dX4_addPinches_32 : decode cX4_addPinches 32 = .ok (.invokevirtual 62, 3) := by decide +kernel
theorem dX4_addPinches_35 : decode cX4_addPinches 35 = .ok (.istore 6, 2) := by decide +kernel
theorem dX4_addPinches_37 : decode cX4_addPinches 37 = .ok (.iload_n 3, 1) := by decide +kernel
theorem dX4_addPinches_38 : decode cX4_addPinches 38 = .ok (.iload 4, 2) := by decide +kernel
theorem dX4_addPinches_40 : decode cX4_addPinches 40 = .ok (.if_icmp .eq 43, 3) := by decide +kernel
theorem dX4_addPinches_43 : decode cX4_addPinches 43 = .ok (.iload 5, 2) := by decide +kernel
theorem dX4_addPinches_45 : decode cX4_addPinches 45 = .ok (.invokestatic 66, 3) := by decide +kernel
theorem dX4_addPinches_48 : decode cX4_addPinches 48 = .ok (.ifCond .eq 35, 3) := by decide +kernel
theorem dX4_addPinches_51 : decode cX4_addPinches 51 = .ok (.iload 6, 2) := by decide +kernel
theorem dX4_addPinches_53 : decode cX4_addPinches 53 = .ok (.invokestatic 66, 3) := by decide +kernel
theorem dX4_addPinches_56 : decode cX4_addPinches 56 = .ok (.ifCond .eq 27, 3) := by decide +kernel
theorem dX4_addPinches_59 : decode cX4_addPinches 59 = .ok (.aload_n 0, 1) := by decide +kernel
theorem dX4_addPinches_60 : decode cX4_addPinches 60 = .ok (.getfield 18, 3) := by decide +kernel
theorem dX4_addPinches_63 : decode cX4_addPinches 63 = .ok (.aload_n 2, 1) := by decide +kernel
theorem dX4_addPinches_64 : decode cX4_addPinches 64 = .ok (.iload 5, 2) := by decide +kernel
theorem dX4_addPinches_66 : decode cX4_addPinches 66 = .ok (.iaload, 1) := by decide +kernel
theorem dX4_addPinches_67 : decode cX4_addPinches 67 = .ok (.aload_n 2, 1) := by decide +kernel
theorem dX4_addPinches_68 : decode cX4_addPinches 68 = .ok (.iload 6, 2) := by decide +kernel
theorem dX4_addPinches_70 : decode cX4_addPinches 70 = .ok (.iaload, 1) := by decide +kernel
theorem dX4_addPinches_71 : decode cX4_addPinches 71 = .ok (.iconst 1, 1) := by decide +kernel
theorem dX4_addPinches_72 : decode cX4_addPinches 72 = .ok (.aload_n 1, 1) := by decide +kernel
theorem dX4_addPinches_73 : decode cX4_addPinches 73 = .ok (.iload_n 3, 1) := by decide +kernel
theorem dX4_addPinches_74 : decode cX4_addPinches 74 = .ok (.iload 4, 2) := by decide +kernel
theorem dX4_addPinches_76 : decode cX4_addPinches 76 = .ok (.invokevirtual 69, 3) := by decide +kernel
theorem dX4_addPinches_79 : decode cX4_addPinches 79 = .ok (.iadd, 1) := by decide +kernel
theorem dX4_addPinches_80 : decode cX4_addPinches 80 = .ok (.invokevirtual 31, 3) := by decide +kernel
theorem dX4_addPinches_83 : decode cX4_addPinches 83 = .ok (.iinc 4 1, 3) := by decide +kernel
theorem dX4_addPinches_86 : decode cX4_addPinches 86 = .ok (.goto (-73), 3) := by decide +kernel
theorem dX4_addPinches_89 : decode cX4_addPinches 89 = .ok (.iinc 3 1, 3) := by decide +kernel
theorem dX4_addPinches_92 : decode cX4_addPinches 92 = .ok (.goto (-90), 3) := by decide +kernel
theorem dX4_addPinches_95 : decode cX4_addPinches 95 = .ok (.return_, 1) := by decide +kernel
theorem dX4_minutesBetween_0 : decode cX4_minutesBetween 0 = .ok (.aload_n 0, 1) := by decide +kernel
theorem dX4_minutesBetween_1 : decode cX4_minutesBetween 1 = .ok (.getfield 18, 3) := by decide +kernel
theorem dX4_minutesBetween_4 : decode cX4_minutesBetween 4 = .ok (.iload_n 1, 1) := by decide +kernel
theorem dX4_minutesBetween_5 : decode cX4_minutesBetween 5 = .ok (.iload_n 2, 1) := by decide +kernel
theorem dX4_minutesBetween_6 : decode cX4_minutesBetween 6 = .ok (.invokevirtual 73, 3) := by decide +kernel
theorem dX4_minutesBetween_9 : decode cX4_minutesBetween 9 = .ok (.istore_n 3, 1) := by decide +kernel
theorem dX4_minutesBetween_10 : decode cX4_minutesBetween 10 = .ok (.iload_n 3, 1) := by decide +kernel
theorem dX4_minutesBetween_11 : decode cX4_minutesBetween 11 = .ok (.ldc 76, 2) := by decide +kernel
theorem dX4_minutesBetween_13 : decode cX4_minutesBetween 13 = .ok (.if_icmp .ge 7, 3) := by decide +kernel
theorem dX4_minutesBetween_16 : decode cX4_minutesBetween 16 = .ok (.iload_n 3, 1) := by decide +kernel
theorem dX4_minutesBetween_17 : decode cX4_minutesBetween 17 = .ok (.goto 4, 3) := by decide +kernel
theorem dX4_minutesBetween_20 : decode cX4_minutesBetween 20 = .ok (.iconst (-1), 1) := by decide +kernel
theorem dX4_minutesBetween_21 : decode cX4_minutesBetween 21 = .ok (.ireturn, 1) := by decide +kernel
theorem dX4_townOfPairs_0 : decode cX4_townOfPairs 0 = .ok (.iload_n 1, 1) := by decide +kernel
theorem dX4_townOfPairs_1 : decode cX4_townOfPairs 1 = .ok (.ifCond .lt 17, 3) := by decide +kernel
theorem dX4_townOfPairs_4 : decode cX4_townOfPairs 4 = .ok (.iload_n 1, 1) := by decide +kernel
theorem dX4_townOfPairs_5 : decode cX4_townOfPairs 5 = .ok (.iconst 4, 1) := by decide +kernel
theorem dX4_townOfPairs_6 : decode cX4_townOfPairs 6 = .ok (.if_icmp .ge 12, 3) := by decide +kernel
theorem dX4_townOfPairs_9 : decode cX4_townOfPairs 9 = .ok (.aload_n 0, 1) := by decide +kernel
theorem dX4_townOfPairs_10 : decode cX4_townOfPairs 10 = .ok (.getfield 25, 3) := by decide +kernel
theorem dX4_townOfPairs_13 : decode cX4_townOfPairs 13 = .ok (.iload_n 1, 1) := by decide +kernel
theorem dX4_townOfPairs_14 : decode cX4_townOfPairs 14 = .ok (.iaload, 1) := by decide +kernel
theorem dX4_townOfPairs_15 : decode cX4_townOfPairs 15 = .ok (.goto 4, 3) := by decide +kernel
theorem dX4_townOfPairs_18 : decode cX4_townOfPairs 18 = .ok (.iconst (-1), 1) := by decide +kernel
theorem dX4_townOfPairs_19 : decode cX4_townOfPairs 19 = .ok (.ireturn, 1) := by decide +kernel
theorem dX4_fewestPairs_0 : decode cX4_fewestPairs 0 = .ok (.aload_n 0, 1) := by decide +kernel
theorem dX4_fewestPairs_1 : decode cX4_fewestPairs 1 = .ok (.getfield 25, 3) := by decide +kernel
theorem dX4_fewestPairs_4 : decode cX4_fewestPairs 4 = .ok (.iconst (-1), 1) := by decide +kernel
theorem dX4_fewestPairs_5 : decode cX4_fewestPairs 5 = .ok (.invokestatic 77, 3) := by decide +kernel
theorem dX4_fewestPairs_8 : decode cX4_fewestPairs 8 = .ok (.aload_n 0, 1) := by decide +kernel
theorem dX4_fewestPairs_9 : decode cX4_fewestPairs 9 = .ok (.getfield 18, 3) := by decide +kernel
theorem dX4_fewestPairs_12 : decode cX4_fewestPairs 12 = .ok (.iload_n 1, 1) := by decide +kernel
theorem dX4_fewestPairs_13 : decode cX4_fewestPairs 13 = .ok (.invokevirtual 83, 3) := by decide +kernel
theorem dX4_fewestPairs_16 : decode cX4_fewestPairs 16 = .ok (.ifCond .eq 5, 3) := by decide +kernel
theorem dX4_fewestPairs_19 : decode cX4_fewestPairs 19 = .ok (.iconst 0, 1) := by decide +kernel
theorem dX4_fewestPairs_20 : decode cX4_fewestPairs 20 = .ok (.ireturn, 1) := by decide +kernel
theorem dX4_fewestPairs_21 : decode cX4_fewestPairs 21 = .ok (.aload_n 0, 1) := by decide +kernel
theorem dX4_fewestPairs_22 : decode cX4_fewestPairs 22 = .ok (.iload_n 1, 1) := by decide +kernel
theorem dX4_fewestPairs_23 : decode cX4_fewestPairs 23 = .ok (.invokevirtual 86, 3) := by decide +kernel
theorem dX4_fewestPairs_26 : decode cX4_fewestPairs 26 = .ok (.ifCond .eq 5, 3) := by decide +kernel
theorem dX4_fewestPairs_29 : decode cX4_fewestPairs 29 = .ok (.iconst 1, 1) := by decide +kernel
theorem dX4_fewestPairs_30 : decode cX4_fewestPairs 30 = .ok (.ireturn, 1) := by decide +kernel
theorem dX4_fewestPairs_31 : decode cX4_fewestPairs 31 = .ok (.aload_n 0, 1) := by decide +kernel
theorem dX4_fewestPairs_32 : decode cX4_fewestPairs 32 = .ok (.iload_n 1, 1) := by decide +kernel
theorem dX4_fewestPairs_33 : decode cX4_fewestPairs 33 = .ok (.invokevirtual 89, 3) := by decide +kernel
theorem dX4_fewestPairs_36 : decode cX4_fewestPairs 36 = .ok (.ifCond .eq 7, 3) := by decide +kernel
theorem dX4_fewestPairs_39 : decode cX4_fewestPairs 39 = .ok (.iconst 2, 1) := by decide +kernel
theorem dX4_fewestPairs_40 : decode cX4_fewestPairs 40 = .ok (.goto 4, 3) := by decide +kernel
theorem dX4_fewestPairs_43 : decode cX4_fewestPairs 43 = .ok (.iconst (-1), 1) := by decide +kernel
theorem dX4_fewestPairs_44 : decode cX4_fewestPairs 44 = .ok (.ireturn, 1) := by decide +kernel
end
section
theorem dX4_isWithinByOne_0 : decode cX4_isWithinByOne 0 = .ok (.iconst 0, 1) := by decide +kernel
theorem dX4_isWithinByOne_1 : decode cX4_isWithinByOne 1 = .ok (.istore_n 2, 1) := by decide +kernel
theorem dX4_isWithinByOne_2 : decode cX4_isWithinByOne 2 = .ok (.iload_n 2, 1) := by decide +kernel
theorem dX4_isWithinByOne_3 : decode cX4_isWithinByOne 3 = .ok (.bipush 15, 2) := by decide +kernel
theorem dX4_isWithinByOne_5 : decode cX4_isWithinByOne 5 = .ok (.if_icmp .ge 38, 3) := by decide +kernel
theorem dX4_isWithinByOne_8 : decode cX4_isWithinByOne 8 = .ok (.aload_n 0, 1) := by decide +kernel
theorem dX4_isWithinByOne_9 : decode cX4_isWithinByOne 9 = .ok (.getfield 18, 3) := by decide +kernel
theorem dX4_isWithinByOne_12 : decode cX4_isWithinByOne 12 = .ok (.iload_n 1, 1) := by decide +kernel
theorem dX4_isWithinByOne_13 : decode cX4_isWithinByOne 13 = .ok (.getstatic 92, 3) := by decide +kernel
theorem dX4_isWithinByOne_16 : decode cX4_isWithinByOne 16 = .ok (.iload_n 2, 1) := by decide +kernel
theorem dX4_isWithinByOne_17 : decode cX4_isWithinByOne 17 = .ok (.iaload, 1) := by decide +kernel
theorem dX4_isWithinByOne_18 : decode cX4_isWithinByOne 18 = .ok (.getstatic 95, 3) := by decide +kernel
theorem dX4_isWithinByOne_21 : decode cX4_isWithinByOne 21 = .ok (.iload_n 2, 1) := by decide +kernel
theorem dX4_isWithinByOne_22 : decode cX4_isWithinByOne 22 = .ok (.iaload, 1) := by decide +kernel
theorem dX4_isWithinByOne_23 : decode cX4_isWithinByOne 23 = .ok (.invokevirtual 98, 3) := by decide +kernel
theorem dX4_isWithinByOne_26 : decode cX4_isWithinByOne 26 = .ok (.ifCond .eq 11, 3) := by decide +kernel
theorem dX4_isWithinByOne_29 : decode cX4_isWithinByOne 29 = .ok (.aload_n 0, 1) := by decide +kernel
theorem dX4_isWithinByOne_30 : decode cX4_isWithinByOne 30 = .ok (.iconst 0, 1) := by decide +kernel
theorem dX4_isWithinByOne_31 : decode cX4_isWithinByOne 31 = .ok (.iload_n 2, 1) := by decide +kernel
theorem dX4_isWithinByOne_32 : decode cX4_isWithinByOne 32 = .ok (.invokevirtual 102, 3) := by decide +kernel
theorem dX4_isWithinByOne_35 : decode cX4_isWithinByOne 35 = .ok (.iconst 1, 1) := by decide +kernel
theorem dX4_isWithinByOne_36 : decode cX4_isWithinByOne 36 = .ok (.ireturn, 1) := by decide +kernel
theorem dX4_isWithinByOne_37 : decode cX4_isWithinByOne 37 = .ok (.iinc 2 1, 3) := by decide +kernel
theorem dX4_isWithinByOne_40 : decode cX4_isWithinByOne 40 = .ok (.goto (-38), 3) := by decide +kernel
theorem dX4_isWithinByOne_43 : decode cX4_isWithinByOne 43 = .ok (.iconst 0, 1) := by decide +kernel
theorem dX4_isWithinByOne_44 : decode cX4_isWithinByOne 44 = .ok (.ireturn, 1) := by decide +kernel
theorem dX4_isWithinByTwo_0 : decode cX4_isWithinByTwo 0 = .ok (.iconst 0, 1) := by decide +kernel
theorem dX4_isWithinByTwo_1 : decode cX4_isWithinByTwo 1 = .ok (.istore_n 2, 1) := by decide +kernel
theorem dX4_isWithinByTwo_2 : decode cX4_isWithinByTwo 2 = .ok (.iload_n 2, 1) := by decide +kernel
theorem dX4_isWithinByTwo_3 : decode cX4_isWithinByTwo 3 = .ok (.bipush 15, 2) := by decide +kernel
theorem dX4_isWithinByTwo_5 : decode cX4_isWithinByTwo 5 = .ok (.if_icmp .ge 81, 3) := by decide +kernel
theorem dX4_isWithinByTwo_8 : decode cX4_isWithinByTwo 8 = .ok (.aload_n 0, 1) := by decide +kernel
theorem dX4_isWithinByTwo_9 : decode cX4_isWithinByTwo 9 = .ok (.getfield 22, 3) := by decide +kernel
theorem dX4_isWithinByTwo_12 : decode cX4_isWithinByTwo 12 = .ok (.aload_n 0, 1) := by decide +kernel
theorem dX4_isWithinByTwo_13 : decode cX4_isWithinByTwo 13 = .ok (.getfield 18, 3) := by decide +kernel
theorem dX4_isWithinByTwo_16 : decode cX4_isWithinByTwo 16 = .ok (.getstatic 92, 3) := by decide +kernel
theorem dX4_isWithinByTwo_19 : decode cX4_isWithinByTwo 19 = .ok (.iload_n 2, 1) := by decide +kernel
theorem dX4_isWithinByTwo_20 : decode cX4_isWithinByTwo 20 = .ok (.iaload, 1) := by decide +kernel
theorem dX4_isWithinByTwo_21 : decode cX4_isWithinByTwo 21 = .ok (.getstatic 95, 3) := by decide +kernel
theorem dX4_isWithinByTwo_24 : decode cX4_isWithinByTwo 24 = .ok (.iload_n 2, 1) := by decide +kernel
theorem dX4_isWithinByTwo_25 : decode cX4_isWithinByTwo 25 = .ok (.iaload, 1) := by decide +kernel
theorem dX4_isWithinByTwo_26 : decode cX4_isWithinByTwo 26 = .ok (.invokevirtual 106, 3) := by decide +kernel
theorem dX4_isWithinByTwo_29 : decode cX4_isWithinByTwo 29 = .ok (.iload_n 2, 1) := by decide +kernel
theorem dX4_isWithinByTwo_30 : decode cX4_isWithinByTwo 30 = .ok (.iconst 1, 1) := by decide +kernel
theorem dX4_isWithinByTwo_31 : decode cX4_isWithinByTwo 31 = .ok (.iadd, 1) := by decide +kernel
theorem dX4_isWithinByTwo_32 : decode cX4_isWithinByTwo 32 = .ok (.istore_n 3, 1) := by decide +kernel
theorem dX4_isWithinByTwo_33 : decode cX4_isWithinByTwo 33 = .ok (.iload_n 3, 1) := by decide +kernel
theorem dX4_isWithinByTwo_34 : decode cX4_isWithinByTwo 34 = .ok (.bipush 15, 2) := by decide +kernel
theorem dX4_isWithinByTwo_36 : decode cX4_isWithinByTwo 36 = .ok (.if_icmp .ge 44, 3) := by decide +kernel
theorem dX4_isWithinByTwo_39 : decode cX4_isWithinByTwo 39 = .ok (.aload_n 0, 1) := by decide +kernel
theorem dX4_isWithinByTwo_40 : decode cX4_isWithinByTwo 40 = .ok (.getfield 22, 3) := by decide +kernel
theorem dX4_isWithinByTwo_43 : decode cX4_isWithinByTwo 43 = .ok (.iload_n 1, 1) := by decide +kernel
theorem dX4_isWithinByTwo_44 : decode cX4_isWithinByTwo 44 = .ok (.getstatic 92, 3) := by decide +kernel
theorem dX4_isWithinByTwo_47 : decode cX4_isWithinByTwo 47 = .ok (.iload_n 3, 1) := by decide +kernel
theorem dX4_isWithinByTwo_48 : decode cX4_isWithinByTwo 48 = .ok (.iaload, 1) := by decide +kernel
theorem dX4_isWithinByTwo_49 : decode cX4_isWithinByTwo 49 = .ok (.getstatic 95, 3) := by decide +kernel
theorem dX4_isWithinByTwo_52 : decode cX4_isWithinByTwo 52 = .ok (.iload_n 3, 1) := by decide +kernel
theorem dX4_isWithinByTwo_53 : decode cX4_isWithinByTwo 53 = .ok (.iaload, 1) := by decide +kernel
theorem dX4_isWithinByTwo_54 : decode cX4_isWithinByTwo 54 = .ok (.invokevirtual 98, 3) := by decide +kernel
theorem dX4_isWithinByTwo_57 : decode cX4_isWithinByTwo 57 = .ok (.ifCond .eq 17, 3) := by decide +kernel
theorem dX4_isWithinByTwo_60 : decode cX4_isWithinByTwo 60 = .ok (.aload_n 0, 1) := by decide +kernel
theorem dX4_isWithinByTwo_61 : decode cX4_isWithinByTwo 61 = .ok (.iconst 0, 1) := by decide +kernel
theorem dX4_isWithinByTwo_62 : decode cX4_isWithinByTwo 62 = .ok (.iload_n 2, 1) := by decide +kernel
theorem dX4_isWithinByTwo_63 : decode cX4_isWithinByTwo 63 = .ok (.invokevirtual 102, 3) := by decide +kernel
theorem dX4_isWithinByTwo_66 : decode cX4_isWithinByTwo 66 = .ok (.aload_n 0, 1) := by decide +kernel
theorem dX4_isWithinByTwo_67 : decode cX4_isWithinByTwo 67 = .ok (.iconst 2, 1) := by decide +kernel
theorem dX4_isWithinByTwo_68 : decode cX4_isWithinByTwo 68 = .ok (.iload_n 3, 1) := by decide +kernel
theorem dX4_isWithinByTwo_69 : decode cX4_isWithinByTwo 69 = .ok (.invokevirtual 102, 3) := by decide +kernel
theorem dX4_isWithinByTwo_72 : decode cX4_isWithinByTwo 72 = .ok (.iconst 1, 1) := by decide +kernel
theorem dX4_isWithinByTwo_73 : decode cX4_isWithinByTwo 73 = .ok (.ireturn, 1) := by decide +kernel
theorem dX4_isWithinByTwo_74 : decode cX4_isWithinByTwo 74 = .ok (.iinc 3 1, 3) := by decide +kernel
theorem dX4_isWithinByTwo_77 : decode cX4_isWithinByTwo 77 = .ok (.goto (-44), 3) := by decide +kernel
theorem dX4_isWithinByTwo_80 : decode cX4_isWithinByTwo 80 = .ok (.iinc 2 1, 3) := by decide +kernel
theorem dX4_isWithinByTwo_83 : decode cX4_isWithinByTwo 83 = .ok (.goto (-81), 3) := by decide +kernel
theorem dX4_isWithinByTwo_86 : decode cX4_isWithinByTwo 86 = .ok (.iconst 0, 1) := by decide +kernel
theorem dX4_isWithinByTwo_87 : decode cX4_isWithinByTwo 87 = .ok (.ireturn, 1) := by decide +kernel
theorem dX4_notePair_0 : decode cX4_notePair 0 = .ok (.aload_n 0, 1) := by decide +kernel
theorem dX4_notePair_1 : decode cX4_notePair 1 = .ok (.getfield 25, 3) := by decide +kernel
theorem dX4_notePair_4 : decode cX4_notePair 4 = .ok (.iload_n 1, 1) := by decide +kernel
theorem dX4_notePair_5 : decode cX4_notePair 5 = .ok (.getstatic 92, 3) := by decide +kernel
theorem dX4_notePair_8 : decode cX4_notePair 8 = .ok (.iload_n 2, 1) := by decide +kernel
theorem dX4_notePair_9 : decode cX4_notePair 9 = .ok (.iaload, 1) := by decide +kernel
theorem dX4_notePair_10 : decode cX4_notePair 10 = .ok (.iastore, 1) := by decide +kernel
theorem dX4_notePair_11 : decode cX4_notePair 11 = .ok (.aload_n 0, 1) := by decide +kernel
theorem dX4_notePair_12 : decode cX4_notePair 12 = .ok (.getfield 25, 3) := by decide +kernel
theorem dX4_notePair_15 : decode cX4_notePair 15 = .ok (.iload_n 1, 1) := by decide +kernel
theorem dX4_notePair_16 : decode cX4_notePair 16 = .ok (.iconst 1, 1) := by decide +kernel
theorem dX4_notePair_17 : decode cX4_notePair 17 = .ok (.iadd, 1) := by decide +kernel
theorem dX4_notePair_18 : decode cX4_notePair 18 = .ok (.getstatic 95, 3) := by decide +kernel
theorem dX4_notePair_21 : decode cX4_notePair 21 = .ok (.iload_n 2, 1) := by decide +kernel
theorem dX4_notePair_22 : decode cX4_notePair 22 = .ok (.iaload, 1) := by decide +kernel
theorem dX4_notePair_23 : decode cX4_notePair 23 = .ok (.iastore, 1) := by decide +kernel
theorem dX4_notePair_24 : decode cX4_notePair 24 = .ok (.return_, 1) := by decide +kernel
theorem dX5_init_0 : decode cX5_init 0 = .ok (.aload_n 0, 1) := by decide +kernel
theorem dX5_init_1 : decode cX5_init 1 = .ok (.invokespecial 3, 3) := by decide +kernel
theorem dX5_init_4 : decode cX5_init 4 = .ok (.aload_n 0, 1) := by decide +kernel
theorem dX5_init_5 : decode cX5_init 5 = .ok (.bipush 32, 2) := by decide +kernel
theorem dX5_init_7 : decode cX5_init 7 = .ok (.newarray .int, 2) := by decide +kernel
theorem dX5_init_9 : decode cX5_init 9 = .ok (.putfield 11, 3) := by decide +kernel
theorem dX5_init_12 : decode cX5_init 12 = .ok (.return_, 1) := by decide +kernel
theorem dX5_size_0 : decode cX5_size 0 = .ok (.aload_n 0, 1) := by decide +kernel
theorem dX5_size_1 : decode cX5_size 1 = .ok (.getfield 15, 3) := by decide +kernel
theorem dX5_size_4 : decode cX5_size 4 = .ok (.ireturn, 1) := by decide +kernel
theorem dX5_at_0 : decode cX5_at 0 = .ok (.iload_n 1, 1) := by decide +kernel
theorem dX5_at_1 : decode cX5_at 1 = .ok (.ifCond .lt 26, 3) := by decide +kernel
theorem dX5_at_4 : decode cX5_at 4 = .ok (.iload_n 1, 1) := by decide +kernel
theorem dX5_at_5 : decode cX5_at 5 = .ok (.aload_n 0, 1) := by decide +kernel
theorem dX5_at_6 : decode cX5_at 6 = .ok (.getfield 15, 3) := by decide +kernel
theorem dX5_at_9 : decode cX5_at 9 = .ok (.if_icmp .ge 18, 3) := by decide +kernel
theorem dX5_at_12 : decode cX5_at 12 = .ok (.iload_n 1, 1) := by decide +kernel
theorem dX5_at_13 : decode cX5_at 13 = .ok (.bipush 32, 2) := by decide +kernel
theorem dX5_at_15 : decode cX5_at 15 = .ok (.if_icmp .ge 12, 3) := by decide +kernel
theorem dX5_at_18 : decode cX5_at 18 = .ok (.aload_n 0, 1) := by decide +kernel
theorem dX5_at_19 : decode cX5_at 19 = .ok (.getfield 11, 3) := by decide +kernel
theorem dX5_at_22 : decode cX5_at 22 = .ok (.iload_n 1, 1) := by decide +kernel
theorem dX5_at_23 : decode cX5_at 23 = .ok (.iaload, 1) := by decide +kernel
theorem dX5_at_24 : decode cX5_at 24 = .ok (.goto 4, 3) := by decide +kernel
theorem dX5_at_27 : decode cX5_at 27 = .ok (.iconst (-1), 1) := by decide +kernel
theorem dX5_at_28 : decode cX5_at 28 = .ok (.ireturn, 1) := by decide +kernel
theorem dX5_clear_0 : decode cX5_clear 0 = .ok (.aload_n 0, 1) := by decide +kernel
theorem dX5_clear_1 : decode cX5_clear 1 = .ok (.iconst 0, 1) := by decide +kernel
theorem dX5_clear_2 : decode cX5_clear 2 = .ok (.putfield 15, 3) := by decide +kernel
theorem dX5_clear_5 : decode cX5_clear 5 = .ok (.return_, 1) := by decide +kernel
theorem dX5_write_0 : decode cX5_write 0 = .ok (.lload_n 1, 1) := by decide +kernel
theorem dX5_write_1 : decode cX5_write 1 = .ok (.invokestatic 19, 3) := by decide +kernel
theorem dX5_write_4 : decode cX5_write 4 = .ok (.istore_n 3, 1) := by decide +kernel
theorem dX5_write_5 : decode cX5_write 5 = .ok (.iload_n 3, 1) := by decide +kernel
theorem dX5_write_6 : decode cX5_write 6 = .ok (.ifCond .ge 6, 3) := by decide +kernel
theorem dX5_write_9 : decode cX5_write 9 = .ok (.bipush (-102), 2) := by decide +kernel
theorem dX5_write_11 : decode cX5_write 11 = .ok (.ireturn, 1) := by decide +kernel
theorem dX5_write_12 : decode cX5_write 12 = .ok (.aload_n 0, 1) := by decide +kernel
theorem dX5_write_13 : decode cX5_write 13 = .ok (.getfield 15, 3) := by decide +kernel
theorem dX5_write_16 : decode cX5_write 16 = .ok (.iload_n 3, 1) := by decide +kernel
theorem dX5_write_17 : decode cX5_write 17 = .ok (.iadd, 1) := by decide +kernel
theorem dX5_write_18 : decode cX5_write 18 = .ok (.bipush 32, 2) := by decide +kernel
theorem dX5_write_20 : decode cX5_write 20 = .ok (.if_icmp .le 6, 3) := by decide +kernel
theorem dX5_write_23 : decode cX5_write 23 = .ok (.bipush (-104), 2) := by decide +kernel
theorem dX5_write_25 : decode cX5_write 25 = .ok (.ireturn, 1) := by decide +kernel
theorem dX5_write_26 : decode cX5_write 26 = .ok (.iconst 0, 1) := by decide +kernel
theorem dX5_write_27 : decode cX5_write 27 = .ok (.istore 4, 2) := by decide +kernel
theorem dX5_write_29 : decode cX5_write 29 = .ok (.iload 4, 2) := by decide +kernel
theorem dX5_write_31 : decode cX5_write 31 = .ok (.iload_n 3, 1) := by decide +kernel
theorem dX5_write_32 : decode cX5_write 32 = .ok (.if_icmp .ge 27, 3) := by decide +kernel
theorem dX5_write_35 : decode cX5_write 35 = .ok (.aload_n 0, 1) := by decide +kernel
theorem dX5_write_36 : decode cX5_write 36 = .ok (.getfield 11, 3) := by decide +kernel
theorem dX5_write_39 : decode cX5_write 39 = .ok (.aload_n 0, 1) := by decide +kernel
theorem dX5_write_40 : decode cX5_write 40 = .ok (.getfield 15, 3) := by decide +kernel
theorem dX5_write_43 : decode cX5_write 43 = .ok (.iload 4, 2) := by decide +kernel
theorem dX5_write_45 : decode cX5_write 45 = .ok (.iadd, 1) := by decide +kernel
theorem dX5_write_46 : decode cX5_write 46 = .ok (.lload_n 1, 1) := by decide +kernel
theorem dX5_write_47 : decode cX5_write 47 = .ok (.iload 4, 2) := by decide +kernel
theorem dX5_write_49 : decode cX5_write 49 = .ok (.invokestatic 23, 3) := by decide +kernel
theorem dX5_write_52 : decode cX5_write 52 = .ok (.iastore, 1) := by decide +kernel
theorem dX5_write_53 : decode cX5_write 53 = .ok (.iinc 4 1, 3) := by decide +kernel
theorem dX5_write_56 : decode cX5_write 56 = .ok (.goto (-27), 3) := by decide +kernel
theorem dX5_write_59 : decode cX5_write 59 = .ok (.aload_n 0, 1) := by decide +kernel
theorem dX5_write_60 : decode cX5_write 60 = .ok (.dup, 1) := by decide +kernel
theorem dX5_write_61 : decode cX5_write 61 = .ok (.getfield 15, 3) := by decide +kernel
theorem dX5_write_64 : decode cX5_write 64 = .ok (.iload_n 3, 1) := by decide +kernel
theorem dX5_write_65 : decode cX5_write 65 = .ok (.iadd, 1) := by decide +kernel
theorem dX5_write_66 : decode cX5_write 66 = .ok (.putfield 15, 3) := by decide +kernel
theorem dX5_write_69 : decode cX5_write 69 = .ok (.aload_n 0, 1) := by decide +kernel
theorem dX5_write_70 : decode cX5_write 70 = .ok (.getfield 15, 3) := by decide +kernel
theorem dX5_write_73 : decode cX5_write 73 = .ok (.ireturn, 1) := by decide +kernel
theorem dX5_lettersIn_0 : decode cX5_lettersIn 0 = .ok (.iconst 0, 1) := by decide +kernel
theorem dX5_lettersIn_1 : decode cX5_lettersIn 1 = .ok (.istore_n 2, 1) := by decide +kernel
theorem dX5_lettersIn_2 : decode cX5_lettersIn 2 = .ok (.iconst 0, 1) := by decide +kernel
theorem dX5_lettersIn_3 : decode cX5_lettersIn 3 = .ok (.istore_n 3, 1) := by decide +kernel
theorem dX5_lettersIn_4 : decode cX5_lettersIn 4 = .ok (.iload_n 3, 1) := by decide +kernel
theorem dX5_lettersIn_5 : decode cX5_lettersIn 5 = .ok (.bipush 8, 2) := by decide +kernel
theorem dX5_lettersIn_7 : decode cX5_lettersIn 7 = .ok (.if_icmp .ge 55, 3) := by decide +kernel
theorem dX5_lettersIn_10 : decode cX5_lettersIn 10 = .ok (.lload_n 0, 1) := by decide +kernel
theorem dX5_lettersIn_11 : decode cX5_lettersIn 11 = .ok (.iload_n 3, 1) := by decide +kernel
theorem dX5_lettersIn_12 : decode cX5_lettersIn 12 = .ok (.invokestatic 23, 3) := by decide +kernel
theorem dX5_lettersIn_15 : decode cX5_lettersIn 15 = .ok (.istore 4, 2) := by decide +kernel
theorem dX5_lettersIn_17 : decode cX5_lettersIn 17 = .ok (.iload_n 2, 1) := by decide +kernel
theorem dX5_lettersIn_18 : decode cX5_lettersIn 18 = .ok (.iload_n 3, 1) := by decide +kernel
theorem dX5_lettersIn_19 : decode cX5_lettersIn 19 = .ok (.if_icmp .ge 7, 3) := by decide +kernel
theorem dX5_lettersIn_22 : decode cX5_lettersIn 22 = .ok (.iconst 1, 1) := by decide +kernel
theorem dX5_lettersIn_23 : decode cX5_lettersIn 23 = .ok (.goto 4, 3) := by decide +kernel
theorem dX5_lettersIn_26 : decode cX5_lettersIn 26 = .ok (.iconst 0, 1) := by decide +kernel
theorem dX5_lettersIn_27 : decode cX5_lettersIn 27 = .ok (.istore 5, 2) := by decide +kernel
theorem dX5_lettersIn_29 : decode cX5_lettersIn 29 = .ok (.iload 4, 2) := by decide +kernel
theorem dX5_lettersIn_31 : decode cX5_lettersIn 31 = .ok (.bipush 126, 2) := by decide +kernel
theorem dX5_lettersIn_33 : decode cX5_lettersIn 33 = .ok (.if_icmp .gt 13, 3) := by decide +kernel
theorem dX5_lettersIn_36 : decode cX5_lettersIn 36 = .ok (.iload 4, 2) := by decide +kernel
theorem dX5_lettersIn_38 : decode cX5_lettersIn 38 = .ok (.ifCond .eq 10, 3) := by decide +kernel
theorem dX5_lettersIn_41 : decode cX5_lettersIn 41 = .ok (.iload 5, 2) := by decide +kernel
theorem dX5_lettersIn_43 : decode cX5_lettersIn 43 = .ok (.ifCond .eq 5, 3) := by decide +kernel
theorem dX5_lettersIn_46 : decode cX5_lettersIn 46 = .ok (.iconst (-1), 1) := by decide +kernel
theorem dX5_lettersIn_47 : decode cX5_lettersIn 47 = .ok (.ireturn, 1) := by decide +kernel
theorem dX5_lettersIn_48 : decode cX5_lettersIn 48 = .ok (.iload 4, 2) := by decide +kernel
theorem dX5_lettersIn_50 : decode cX5_lettersIn 50 = .ok (.ifCond .eq 6, 3) := by decide +kernel
theorem dX5_lettersIn_53 : decode cX5_lettersIn 53 = .ok (.iinc 2 1, 3) := by decide +kernel
theorem dX5_lettersIn_56 : decode cX5_lettersIn 56 = .ok (.iinc 3 1, 3) := by decide +kernel
theorem dX5_lettersIn_59 : decode cX5_lettersIn 59 = .ok (.goto (-55), 3) := by decide +kernel
theorem dX5_lettersIn_62 : decode cX5_lettersIn 62 = .ok (.iload_n 2, 1) := by decide +kernel
theorem dX5_lettersIn_63 : decode cX5_lettersIn 63 = .ok (.ireturn, 1) := by decide +kernel
theorem dX5_byteOf_0 : decode cX5_byteOf 0 = .ok (.lload_n 0, 1) := by decide +kernel
theorem dX5_byteOf_1 : decode cX5_byteOf 1 = .ok (.bipush 8, 2) := by decide +kernel
theorem dX5_byteOf_3 : decode cX5_byteOf 3 = .ok (.iload_n 2, 1) := by decide +kernel
theorem dX5_byteOf_4 : decode cX5_byteOf 4 = .ok (.imul, 1) := by decide +kernel
theorem dX5_byteOf_5 : decode cX5_byteOf 5 = .ok (.lushr, 1) := by decide +kernel
theorem dX5_byteOf_6 : decode cX5_byteOf 6 = .ok (.ldc2_w 27, 3) := by decide +kernel
theorem dX5_byteOf_9 : decode cX5_byteOf 9 = .ok (.land, 1) := by decide +kernel
theorem dX5_byteOf_10 : decode cX5_byteOf 10 = .ok (.l2i, 1) := by decide +kernel
theorem dX5_byteOf_11 : decode cX5_byteOf 11 = .ok (.ireturn, 1) := by decide +kernel
theorem dX6_init_0 : decode cX6_init 0 = .ok (.aload_n 0, 1) := by decide +kernel
theorem dX6_init_1 : decode cX6_init 1 = .ok (.invokespecial 3, 3) := by decide +kernel
theorem dX6_init_4 : decode cX6_init 4 = .ok (.aload_n 0, 1) := by decide +kernel
theorem dX6_init_5 : decode cX6_init 5 = .ok (.iconst 5, 1) := by decide +kernel
theorem dX6_init_6 : decode cX6_init 6 = .ok (.anewarray 11, 3) := by decide +kernel
theorem dX6_init_9 : decode cX6_init 9 = .ok (.putfield 13, 3) := by decide +kernel
theorem dX6_init_12 : decode cX6_init 12 = .ok (.aload_n 0, 1) := by decide +kernel
theorem dX6_init_13 : decode cX6_init 13 = .ok (.bipush 10, 2) := by decide +kernel
theorem dX6_init_15 : decode cX6_init 15 = .ok (.newarray .int, 2) := by decide +kernel
theorem dX6_init_17 : decode cX6_init 17 = .ok (.putfield 17, 3) := by decide +kernel
theorem dX6_init_20 : decode cX6_init 20 = .ok (.iconst 0, 1) := by decide +kernel
theorem dX6_init_21 : decode cX6_init 21 = .ok (.istore_n 1, 1) := by decide +kernel
theorem dX6_init_22 : decode cX6_init 22 = .ok (.iload_n 1, 1) := by decide +kernel
theorem dX6_init_23 : decode cX6_init 23 = .ok (.iconst 5, 1) := by decide +kernel
theorem dX6_init_24 : decode cX6_init 24 = .ok (.if_icmp .ge 22, 3) := by decide +kernel
theorem dX6_init_27 : decode cX6_init 27 = .ok (.aload_n 0, 1) := by decide +kernel
theorem dX6_init_28 : decode cX6_init 28 = .ok (.getfield 13, 3) := by decide +kernel
theorem dX6_init_31 : decode cX6_init 31 = .ok (.iload_n 1, 1) := by decide +kernel
theorem dX6_init_32 : decode cX6_init 32 = .ok (.new 11, 3) := by decide +kernel
theorem dX6_init_35 : decode cX6_init 35 = .ok (.dup, 1) := by decide +kernel
theorem dX6_init_36 : decode cX6_init 36 = .ok (.invokespecial 21, 3) := by decide +kernel
theorem dX6_init_39 : decode cX6_init 39 = .ok (.aastore, 1) := by decide +kernel
theorem dX6_init_40 : decode cX6_init 40 = .ok (.iinc 1 1, 3) := by decide +kernel
theorem dX6_init_43 : decode cX6_init 43 = .ok (.goto (-21), 3) := by decide +kernel
theorem dX6_init_46 : decode cX6_init 46 = .ok (.aload_n 0, 1) := by decide +kernel
theorem dX6_init_47 : decode cX6_init 47 = .ok (.getfield 17, 3) := by decide +kernel
theorem dX6_init_50 : decode cX6_init 50 = .ok (.iconst (-1), 1) := by decide +kernel
theorem dX6_init_51 : decode cX6_init 51 = .ok (.invokestatic 22, 3) := by decide +kernel
theorem dX6_init_54 : decode cX6_init 54 = .ok (.return_, 1) := by decide +kernel
theorem dX6_readFrom_0 : decode cX6_readFrom 0 = .ok (.aload_n 0, 1) := by decide +kernel
theorem dX6_readFrom_1 : decode cX6_readFrom 1 = .ok (.getfield 17, 3) := by decide +kernel
theorem dX6_readFrom_4 : decode cX6_readFrom 4 = .ok (.iconst (-1), 1) := by decide +kernel
theorem dX6_readFrom_5 : decode cX6_readFrom 5 = .ok (.invokestatic 22, 3) := by decide +kernel
theorem dX6_readFrom_8 : decode cX6_readFrom 8 = .ok (.aload_n 0, 1) := by decide +kernel
theorem dX6_readFrom_9 : decode cX6_readFrom 9 = .ok (.iconst 0, 1) := by decide +kernel
theorem dX6_readFrom_10 : decode cX6_readFrom 10 = .ok (.putfield 28, 3) := by decide +kernel
theorem dX6_readFrom_13 : decode cX6_readFrom 13 = .ok (.aload_n 0, 1) := by decide +kernel
theorem dX6_readFrom_14 : decode cX6_readFrom 14 = .ok (.invokevirtual 32, 3) := by decide +kernel
theorem dX6_readFrom_17 : decode cX6_readFrom 17 = .ok (.pop, 1) := by decide +kernel
theorem dX6_readFrom_18 : decode cX6_readFrom 18 = .ok (.iconst 0, 1) := by decide +kernel
theorem dX6_readFrom_19 : decode cX6_readFrom 19 = .ok (.istore_n 2, 1) := by decide +kernel
theorem dX6_readFrom_20 : decode cX6_readFrom 20 = .ok (.iload_n 2, 1) := by decide +kernel
theorem dX6_readFrom_21 : decode cX6_readFrom 21 = .ok (.aload_n 1, 1) := by decide +kernel
theorem dX6_readFrom_22 : decode cX6_readFrom 22 = .ok (.invokevirtual 36, 3) := by decide +kernel
theorem dX6_readFrom_25 : decode cX6_readFrom 25 = .ok (.if_icmp .ge 23, 3) := by decide +kernel
theorem dX6_readFrom_28 : decode cX6_readFrom 28 = .ok (.aload_n 0, 1) := by decide +kernel
theorem dX6_readFrom_29 : decode cX6_readFrom 29 = .ok (.aload_n 1, 1) := by decide +kernel
theorem dX6_readFrom_30 : decode cX6_readFrom 30 = .ok (.iload_n 2, 1) := by decide +kernel
theorem dX6_readFrom_31 : decode cX6_readFrom 31 = .ok (.invokevirtual 42, 3) := by decide +kernel
theorem dX6_readFrom_34 : decode cX6_readFrom 34 = .ok (.invokevirtual 46, 3) := by decide +kernel
theorem dX6_readFrom_37 : decode cX6_readFrom 37 = .ok (.ifCond .ne 5, 3) := by decide +kernel
theorem dX6_readFrom_40 : decode cX6_readFrom 40 = .ok (.iload_n 2, 1) := by decide +kernel
theorem dX6_readFrom_41 : decode cX6_readFrom 41 = .ok (.ireturn, 1) := by decide +kernel
theorem dX6_readFrom_42 : decode cX6_readFrom 42 = .ok (.iinc 2 1, 3) := by decide +kernel
theorem dX6_readFrom_45 : decode cX6_readFrom 45 = .ok (.goto (-25), 3) := by decide +kernel
theorem dX6_readFrom_48 : decode cX6_readFrom 48 = .ok (.aload_n 1, 1) := by decide +kernel
theorem dX6_readFrom_49 : decode cX6_readFrom 49 = .ok (.invokevirtual 36, 3) := by decide +kernel
theorem dX6_readFrom_52 : decode cX6_readFrom 52 = .ok (.ireturn, 1) := by decide +kernel
theorem dX6_isWhole_0 : decode cX6_isWhole 0 = .ok (.aload_n 0, 1) := by decide +kernel
theorem dX6_isWhole_1 : decode cX6_isWhole 1 = .ok (.aload_n 0, 1) := by decide +kernel
theorem dX6_isWhole_2 : decode cX6_isWhole 2 = .ok (.getfield 28, 3) := by decide +kernel
theorem dX6_isWhole_5 : decode cX6_isWhole 5 = .ok (.iconst 1, 1) := by decide +kernel
theorem dX6_isWhole_6 : decode cX6_isWhole 6 = .ok (.isub, 1) := by decide +kernel
theorem dX6_isWhole_7 : decode cX6_isWhole 7 = .ok (.invokevirtual 50, 3) := by decide +kernel
theorem dX6_isWhole_10 : decode cX6_isWhole 10 = .ok (.astore_n 1, 1) := by decide +kernel
theorem dX6_isWhole_11 : decode cX6_isWhole 11 = .ok (.aload_n 1, 1) := by decide +kernel
theorem dX6_isWhole_12 : decode cX6_isWhole 12 = .ok (.ifnull 14, 3) := by decide +kernel
theorem dX6_isWhole_15 : decode cX6_isWhole 15 = .ok (.aload_n 1, 1) := by decide +kernel
theorem dX6_isWhole_16 : decode cX6_isWhole 16 = .ok (.invokevirtual 54, 3) := by decide +kernel
theorem dX6_isWhole_19 : decode cX6_isWhole 19 = .ok (.ifCond .eq 7, 3) := by decide +kernel
theorem dX6_isWhole_22 : decode cX6_isWhole 22 = .ok (.iconst 1, 1) := by decide +kernel
theorem dX6_isWhole_23 : decode cX6_isWhole 23 = .ok (.goto 4, 3) := by decide +kernel
theorem dX6_isWhole_26 : decode cX6_isWhole 26 = .ok (.iconst 0, 1) := by decide +kernel
theorem dX6_isWhole_27 : decode cX6_isWhole 27 = .ok (.ireturn, 1) := by decide +kernel
theorem dX6_size_0 : decode cX6_size 0 = .ok (.aload_n 0, 1) := by decide +kernel
theorem dX6_size_1 : decode cX6_size 1 = .ok (.getfield 28, 3) := by decide +kernel
theorem dX6_size_4 : decode cX6_size 4 = .ok (.ireturn, 1) := by decide +kernel
theorem dX6_find_0 : decode cX6_find 0 = .ok (.iload_n 1, 1) := by decide +kernel
theorem dX6_find_1 : decode cX6_find 1 = .ok (.ifCond .lt 25, 3) := by decide +kernel
theorem dX6_find_4 : decode cX6_find 4 = .ok (.iload_n 1, 1) := by decide +kernel
theorem dX6_find_5 : decode cX6_find 5 = .ok (.aload_n 0, 1) := by decide +kernel
theorem dX6_find_6 : decode cX6_find 6 = .ok (.getfield 28, 3) := by decide +kernel
theorem dX6_find_9 : decode cX6_find 9 = .ok (.if_icmp .ge 17, 3) := by decide +kernel
theorem dX6_find_12 : decode cX6_find 12 = .ok (.iload_n 1, 1) := by decide +kernel
theorem dX6_find_13 : decode cX6_find 13 = .ok (.iconst 5, 1) := by decide +kernel
theorem dX6_find_14 : decode cX6_find 14 = .ok (.if_icmp .ge 12, 3) := by decide +kernel
theorem dX6_find_17 : decode cX6_find 17 = .ok (.aload_n 0, 1) := by decide +kernel
theorem dX6_find_18 : decode cX6_find 18 = .ok (.getfield 13, 3) := by decide +kernel
theorem dX6_find_21 : decode cX6_find 21 = .ok (.iload_n 1, 1) := by decide +kernel
theorem dX6_find_22 : decode cX6_find 22 = .ok (.aaload, 1) := by decide +kernel
theorem dX6_find_23 : decode cX6_find 23 = .ok (.goto 4, 3) := by decide +kernel
theorem dX6_find_26 : decode cX6_find 26 = .ok (.aconst_null, 1) := by decide +kernel
theorem dX6_find_27 : decode cX6_find 27 = .ok (.areturn, 1) := by decide +kernel
theorem dX6_birthOf_0 : decode cX6_birthOf 0 = .ok (.iload_n 1, 1) := by decide +kernel
theorem dX6_birthOf_1 : decode cX6_birthOf 1 = .ok (.invokestatic 57, 3) := by decide +kernel
theorem dX6_birthOf_4 : decode cX6_birthOf 4 = .ok (.ifCond .eq 12, 3) := by decide +kernel
theorem dX6_birthOf_7 : decode cX6_birthOf 7 = .ok (.aload_n 0, 1) := by decide +kernel
theorem dX6_birthOf_8 : decode cX6_birthOf 8 = .ok (.getfield 17, 3) := by decide +kernel
theorem dX6_birthOf_11 : decode cX6_birthOf 11 = .ok (.iload_n 1, 1) := by decide +kernel
theorem dX6_birthOf_12 : decode cX6_birthOf 12 = .ok (.iaload, 1) := by decide +kernel
theorem dX6_birthOf_13 : decode cX6_birthOf 13 = .ok (.goto 4, 3) := by decide +kernel
theorem dX6_birthOf_16 : decode cX6_birthOf 16 = .ok (.iconst (-1), 1) := by decide +kernel
theorem dX6_birthOf_17 : decode cX6_birthOf 17 = .ok (.ireturn, 1) := by decide +kernel
theorem dX6_tenthsOf_0 : decode cX6_tenthsOf 0 = .ok (.aload_n 0, 1) := by decide +kernel
theorem dX6_tenthsOf_1 : decode cX6_tenthsOf 1 = .ok (.aload_n 0, 1) := by decide +kernel
theorem dX6_tenthsOf_2 : decode cX6_tenthsOf 2 = .ok (.iload_n 1, 1) := by decide +kernel
theorem dX6_tenthsOf_3 : decode cX6_tenthsOf 3 = .ok (.invokevirtual 60, 3) := by decide +kernel
theorem dX6_tenthsOf_6 : decode cX6_tenthsOf 6 = .ok (.invokevirtual 50, 3) := by decide +kernel
theorem dX6_tenthsOf_9 : decode cX6_tenthsOf 9 = .ok (.astore_n 2, 1) := by decide +kernel
theorem dX6_tenthsOf_10 : decode cX6_tenthsOf 10 = .ok (.aload_n 2, 1) := by decide +kernel
theorem dX6_tenthsOf_11 : decode cX6_tenthsOf 11 = .ok (.ifnonnull 8, 3) := by decide +kernel
theorem dX6_tenthsOf_14 : decode cX6_tenthsOf 14 = .ok (.bipush 10, 2) := by decide +kernel
theorem dX6_tenthsOf_16 : decode cX6_tenthsOf 16 = .ok (.goto 7, 3) := by decide +kernel
theorem dX6_tenthsOf_19 : decode cX6_tenthsOf 19 = .ok (.aload_n 2, 1) := by decide +kernel
theorem dX6_tenthsOf_20 : decode cX6_tenthsOf 20 = .ok (.invokevirtual 62, 3) := by decide +kernel
theorem dX6_tenthsOf_23 : decode cX6_tenthsOf 23 = .ok (.ireturn, 1) := by decide +kernel
theorem dX6_delay_0 : decode cX6_delay 0 = .ok (.aload_n 0, 1) := by decide +kernel
theorem dX6_delay_1 : decode cX6_delay 1 = .ok (.iload_n 1, 1) := by decide +kernel
theorem dX6_delay_2 : decode cX6_delay 2 = .ok (.invokevirtual 60, 3) := by decide +kernel
theorem dX6_delay_5 : decode cX6_delay 5 = .ok (.istore_n 3, 1) := by decide +kernel
theorem dX6_delay_6 : decode cX6_delay 6 = .ok (.aload_n 0, 1) := by decide +kernel
theorem dX6_delay_7 : decode cX6_delay 7 = .ok (.iload_n 3, 1) := by decide +kernel
theorem dX6_delay_8 : decode cX6_delay 8 = .ok (.invokevirtual 50, 3) := by decide +kernel
theorem dX6_delay_11 : decode cX6_delay 11 = .ok (.astore 4, 2) := by decide +kernel
theorem dX6_delay_13 : decode cX6_delay 13 = .ok (.aload 4, 2) := by decide +kernel
theorem dX6_delay_15 : decode cX6_delay 15 = .ok (.ifnull 17, 3) := by decide +kernel
theorem dX6_delay_18 : decode cX6_delay 18 = .ok (.aload_n 0, 1) := by decide +kernel
theorem dX6_delay_19 : decode cX6_delay 19 = .ok (.iload_n 2, 1) := by decide +kernel
theorem dX6_delay_20 : decode cX6_delay 20 = .ok (.invokevirtual 60, 3) := by decide +kernel
theorem dX6_delay_23 : decode cX6_delay 23 = .ok (.iload_n 3, 1) := by decide +kernel
theorem dX6_delay_24 : decode cX6_delay 24 = .ok (.if_icmp .ne 8, 3) := by decide +kernel
theorem dX6_delay_27 : decode cX6_delay 27 = .ok (.iload_n 1, 1) := by decide +kernel
theorem dX6_delay_28 : decode cX6_delay 28 = .ok (.iload_n 2, 1) := by decide +kernel
theorem dX6_delay_29 : decode cX6_delay 29 = .ok (.if_icmp .ne 5, 3) := by decide +kernel
theorem dX6_delay_32 : decode cX6_delay 32 = .ok (.iconst (-1), 1) := by decide +kernel
theorem dX6_delay_33 : decode cX6_delay 33 = .ok (.ireturn, 1) := by decide +kernel
theorem dX6_delay_34 : decode cX6_delay 34 = .ok (.aload 4, 2) := by decide +kernel
theorem dX6_delay_36 : decode cX6_delay 36 = .ok (.aload 4, 2) := by decide +kernel
theorem dX6_delay_38 : decode cX6_delay 38 = .ok (.iload_n 1, 1) := by decide +kernel
theorem dX6_delay_39 : decode cX6_delay 39 = .ok (.invokevirtual 65, 3) := by decide +kernel
theorem dX6_delay_42 : decode cX6_delay 42 = .ok (.aload 4, 2) := by decide +kernel
theorem dX6_delay_44 : decode cX6_delay 44 = .ok (.iload_n 2, 1) := by decide +kernel
theorem dX6_delay_45 : decode cX6_delay 45 = .ok (.invokevirtual 65, 3) := by decide +kernel
theorem dX6_delay_48 : decode cX6_delay 48 = .ok (.invokevirtual 68, 3) := by decide +kernel
theorem dX6_delay_51 : decode cX6_delay 51 = .ok (.ireturn, 1) := by decide +kernel
theorem dX6_beginBirth_0 : decode cX6_beginBirth 0 = .ok (.aload_n 0, 1) := by decide +kernel
theorem dX6_beginBirth_1 : decode cX6_beginBirth 1 = .ok (.getfield 28, 3) := by decide +kernel
theorem dX6_beginBirth_4 : decode cX6_beginBirth 4 = .ok (.iconst 5, 1) := by decide +kernel
theorem dX6_beginBirth_5 : decode cX6_beginBirth 5 = .ok (.if_icmp .lt 5, 3) := by decide +kernel
theorem dX6_beginBirth_8 : decode cX6_beginBirth 8 = .ok (.iconst 0, 1) := by decide +kernel
theorem dX6_beginBirth_9 : decode cX6_beginBirth 9 = .ok (.ireturn, 1) := by decide +kernel
theorem dX6_beginBirth_10 : decode cX6_beginBirth 10 = .ok (.aload_n 0, 1) := by decide +kernel
theorem dX6_beginBirth_11 : decode cX6_beginBirth 11 = .ok (.getfield 13, 3) := by decide +kernel
theorem dX6_beginBirth_14 : decode cX6_beginBirth 14 = .ok (.aload_n 0, 1) := by decide +kernel
theorem dX6_beginBirth_15 : decode cX6_beginBirth 15 = .ok (.getfield 28, 3) := by decide +kernel
theorem dX6_beginBirth_18 : decode cX6_beginBirth 18 = .ok (.aaload, 1) := by decide +kernel
theorem dX6_beginBirth_19 : decode cX6_beginBirth 19 = .ok (.invokevirtual 72, 3) := by decide +kernel
theorem dX6_beginBirth_22 : decode cX6_beginBirth 22 = .ok (.aload_n 0, 1) := by decide +kernel
theorem dX6_beginBirth_23 : decode cX6_beginBirth 23 = .ok (.dup, 1) := by decide +kernel
theorem dX6_beginBirth_24 : decode cX6_beginBirth 24 = .ok (.getfield 28, 3) := by decide +kernel
theorem dX6_beginBirth_27 : decode cX6_beginBirth 27 = .ok (.iconst 1, 1) := by decide +kernel
theorem dX6_beginBirth_28 : decode cX6_beginBirth 28 = .ok (.iadd, 1) := by decide +kernel
theorem dX6_beginBirth_29 : decode cX6_beginBirth 29 = .ok (.putfield 28, 3) := by decide +kernel
theorem dX6_beginBirth_32 : decode cX6_beginBirth 32 = .ok (.iconst 1, 1) := by decide +kernel
theorem dX6_beginBirth_33 : decode cX6_beginBirth 33 = .ok (.ireturn, 1) := by decide +kernel
theorem dX6_take_0 : decode cX6_take 0 = .ok (.aload_n 0, 1) := by decide +kernel
theorem dX6_take_1 : decode cX6_take 1 = .ok (.aload_n 0, 1) := by decide +kernel
theorem dX6_take_2 : decode cX6_take 2 = .ok (.getfield 28, 3) := by decide +kernel
theorem dX6_take_5 : decode cX6_take 5 = .ok (.iconst 1, 1) := by decide +kernel
theorem dX6_take_6 : decode cX6_take 6 = .ok (.isub, 1) := by decide +kernel
theorem dX6_take_7 : decode cX6_take 7 = .ok (.invokevirtual 50, 3) := by decide +kernel
theorem dX6_take_10 : decode cX6_take 10 = .ok (.astore_n 2, 1) := by decide +kernel
theorem dX6_take_11 : decode cX6_take 11 = .ok (.aload_n 2, 1) := by decide +kernel
theorem dX6_take_12 : decode cX6_take 12 = .ok (.ifnonnull 5, 3) := by decide +kernel
theorem dX6_take_15 : decode cX6_take 15 = .ok (.iconst 0, 1) := by decide +kernel
theorem dX6_take_16 : decode cX6_take 16 = .ok (.ireturn, 1) := by decide +kernel
theorem dX6_take_17 : decode cX6_take 17 = .ok (.iload_n 1, 1) := by decide +kernel
theorem dX6_take_18 : decode cX6_take 18 = .ok (.lookupswitch 80 #[(43, 74), (44, 42), (63, 68), (111, 62)], 42) := by decide +kernel
theorem dX6_take_60 : decode cX6_take 60 = .ok (.aload_n 2, 1) := by decide +kernel
theorem dX6_take_61 : decode cX6_take 61 = .ok (.invokevirtual 54, 3) := by decide +kernel
theorem dX6_take_64 : decode cX6_take 64 = .ok (.ifCond .eq 14, 3) := by decide +kernel
theorem dX6_take_67 : decode cX6_take 67 = .ok (.aload_n 0, 1) := by decide +kernel
theorem dX6_take_68 : decode cX6_take 68 = .ok (.invokevirtual 32, 3) := by decide +kernel
theorem dX6_take_71 : decode cX6_take 71 = .ok (.ifCond .eq 7, 3) := by decide +kernel
theorem dX6_take_74 : decode cX6_take 74 = .ok (.iconst 1, 1) := by decide +kernel
theorem dX6_take_75 : decode cX6_take 75 = .ok (.goto 4, 3) := by decide +kernel
theorem dX6_take_78 : decode cX6_take 78 = .ok (.iconst 0, 1) := by decide +kernel
theorem dX6_take_79 : decode cX6_take 79 = .ok (.ireturn, 1) := by decide +kernel
theorem dX6_take_80 : decode cX6_take 80 = .ok (.aload_n 2, 1) := by decide +kernel
theorem dX6_take_81 : decode cX6_take 81 = .ok (.iconst 1, 1) := by decide +kernel
theorem dX6_take_82 : decode cX6_take 82 = .ok (.invokevirtual 75, 3) := by decide +kernel
theorem dX6_take_85 : decode cX6_take 85 = .ok (.ireturn, 1) := by decide +kernel
theorem dX6_take_86 : decode cX6_take 86 = .ok (.aload_n 2, 1) := by decide +kernel
theorem dX6_take_87 : decode cX6_take 87 = .ok (.iconst 2, 1) := by decide +kernel
theorem dX6_take_88 : decode cX6_take 88 = .ok (.invokevirtual 75, 3) := by decide +kernel
theorem dX6_take_91 : decode cX6_take 91 = .ok (.ireturn, 1) := by decide +kernel
theorem dX6_take_92 : decode cX6_take 92 = .ok (.aload_n 2, 1) := by decide +kernel
theorem dX6_take_93 : decode cX6_take 93 = .ok (.iconst 3, 1) := by decide +kernel
theorem dX6_take_94 : decode cX6_take 94 = .ok (.invokevirtual 75, 3) := by decide +kernel
theorem dX6_take_97 : decode cX6_take 97 = .ok (.ireturn, 1) := by decide +kernel
theorem dX6_take_98 : decode cX6_take 98 = .ok (.aload_n 0, 1) := by decide +kernel
theorem dX6_take_99 : decode cX6_take 99 = .ok (.aload_n 2, 1) := by decide +kernel
theorem dX6_take_100 : decode cX6_take 100 = .ok (.iload_n 1, 1) := by decide +kernel
theorem dX6_take_101 : decode cX6_take 101 = .ok (.bipush 48, 2) := by decide +kernel
theorem dX6_take_103 : decode cX6_take 103 = .ok (.isub, 1) := by decide +kernel
theorem dX6_take_104 : decode cX6_take 104 = .ok (.invokevirtual 78, 3) := by decide +kernel
theorem dX6_take_107 : decode cX6_take 107 = .ok (.ireturn, 1) := by decide +kernel
theorem dX6_takeDigit_0 : decode cX6_takeDigit 0 = .ok (.iload_n 2, 1) := by decide +kernel
theorem dX6_takeDigit_1 : decode cX6_takeDigit 1 = .ok (.invokestatic 57, 3) := by decide +kernel
theorem dX6_takeDigit_4 : decode cX6_takeDigit 4 = .ok (.ifCond .ne 5, 3) := by decide +kernel
theorem dX6_takeDigit_7 : decode cX6_takeDigit 7 = .ok (.iconst 0, 1) := by decide +kernel
theorem dX6_takeDigit_8 : decode cX6_takeDigit 8 = .ok (.ireturn, 1) := by decide +kernel
theorem dX6_takeDigit_9 : decode cX6_takeDigit 9 = .ok (.aload_n 1, 1) := by decide +kernel
theorem dX6_takeDigit_10 : decode cX6_takeDigit 10 = .ok (.invokevirtual 82, 3) := by decide +kernel
theorem dX6_takeDigit_13 : decode cX6_takeDigit 13 = .ok (.ifCond .eq 9, 3) := by decide +kernel
theorem dX6_takeDigit_16 : decode cX6_takeDigit 16 = .ok (.aload_n 1, 1) := by decide +kernel
theorem dX6_takeDigit_17 : decode cX6_takeDigit 17 = .ok (.iload_n 2, 1) := by decide +kernel
theorem dX6_takeDigit_18 : decode cX6_takeDigit 18 = .ok (.invokevirtual 85, 3) := by decide +kernel
theorem dX6_takeDigit_21 : decode cX6_takeDigit 21 = .ok (.ireturn, 1) := by decide +kernel
theorem dX6_takeDigit_22 : decode cX6_takeDigit 22 = .ok (.aload_n 0, 1) := by decide +kernel
theorem dX6_takeDigit_23 : decode cX6_takeDigit 23 = .ok (.getfield 17, 3) := by decide +kernel
theorem dX6_takeDigit_26 : decode cX6_takeDigit 26 = .ok (.iload_n 2, 1) := by decide +kernel
theorem dX6_takeDigit_27 : decode cX6_takeDigit 27 = .ok (.iaload, 1) := by decide +kernel
theorem dX6_takeDigit_28 : decode cX6_takeDigit 28 = .ok (.iconst (-1), 1) := by decide +kernel
theorem dX6_takeDigit_29 : decode cX6_takeDigit 29 = .ok (.if_icmp .ne 11, 3) := by decide +kernel
theorem dX6_takeDigit_32 : decode cX6_takeDigit 32 = .ok (.aload_n 1, 1) := by decide +kernel
theorem dX6_takeDigit_33 : decode cX6_takeDigit 33 = .ok (.iload_n 2, 1) := by decide +kernel
theorem dX6_takeDigit_34 : decode cX6_takeDigit 34 = .ok (.invokevirtual 88, 3) := by decide +kernel
theorem dX6_takeDigit_37 : decode cX6_takeDigit 37 = .ok (.ifCond .ne 5, 3) := by decide +kernel
theorem dX6_takeDigit_40 : decode cX6_takeDigit 40 = .ok (.iconst 0, 1) := by decide +kernel
theorem dX6_takeDigit_41 : decode cX6_takeDigit 41 = .ok (.ireturn, 1) := by decide +kernel
theorem dX6_takeDigit_42 : decode cX6_takeDigit 42 = .ok (.aload_n 0, 1) := by decide +kernel
theorem dX6_takeDigit_43 : decode cX6_takeDigit 43 = .ok (.getfield 17, 3) := by decide +kernel
theorem dX6_takeDigit_46 : decode cX6_takeDigit 46 = .ok (.iload_n 2, 1) := by decide +kernel
theorem dX6_takeDigit_47 : decode cX6_takeDigit 47 = .ok (.aload_n 0, 1) := by decide +kernel
theorem dX6_takeDigit_48 : decode cX6_takeDigit 48 = .ok (.getfield 28, 3) := by decide +kernel
theorem dX6_takeDigit_51 : decode cX6_takeDigit 51 = .ok (.iconst 1, 1) := by decide +kernel
theorem dX6_takeDigit_52 : decode cX6_takeDigit 52 = .ok (.isub, 1) := by decide +kernel
theorem dX6_takeDigit_53 : decode cX6_takeDigit 53 = .ok (.iastore, 1) := by decide +kernel
theorem dX6_takeDigit_54 : decode cX6_takeDigit 54 = .ok (.iconst 1, 1) := by decide +kernel
theorem dX6_takeDigit_55 : decode cX6_takeDigit 55 = .ok (.ireturn, 1) := by decide +kernel
theorem dX7_init_0 : decode cX7_init 0 = .ok (.aload_n 0, 1) := by decide +kernel
theorem dX7_init_1 : decode cX7_init 1 = .ok (.invokespecial 1, 3) := by decide +kernel
theorem dX7_init_4 : decode cX7_init 4 = .ok (.aload_n 0, 1) := by decide +kernel
theorem dX7_init_5 : decode cX7_init 5 = .ok (.bipush 16, 2) := by decide +kernel
theorem dX7_init_7 : decode cX7_init 7 = .ok (.newarray .int, 2) := by decide +kernel
theorem dX7_init_9 : decode cX7_init 9 = .ok (.putfield 7, 3) := by decide +kernel
theorem dX7_init_12 : decode cX7_init 12 = .ok (.return_, 1) := by decide +kernel
theorem dX7_most_0 : decode cX7_most 0 = .ok (.aload_n 0, 1) := by decide +kernel
theorem dX7_most_1 : decode cX7_most 1 = .ok (.getfield 13, 3) := by decide +kernel
theorem dX7_most_4 : decode cX7_most 4 = .ok (.ireturn, 1) := by decide +kernel
theorem dX7_firstSet_0 : decode cX7_firstSet 0 = .ok (.aload_n 0, 1) := by decide +kernel
theorem dX7_firstSet_1 : decode cX7_firstSet 1 = .ok (.getfield 17, 3) := by decide +kernel
theorem dX7_firstSet_4 : decode cX7_firstSet 4 = .ok (.ireturn, 1) := by decide +kernel
theorem dX7_search_0 : decode cX7_search 0 = .ok (.iconst 1, 1) := by decide +kernel
theorem dX7_search_1 : decode cX7_search 1 = .ok (.iload_n 1, 1) := by decide +kernel
theorem dX7_search_2 : decode cX7_search 2 = .ok (.ishl, 1) := by decide +kernel
theorem dX7_search_3 : decode cX7_search 3 = .ok (.aload_n 0, 1) := by decide +kernel
theorem dX7_search_4 : decode cX7_search 4 = .ok (.getfield 7, 3) := by decide +kernel
theorem dX7_search_7 : decode cX7_search 7 = .ok (.arraylength, 1) := by decide +kernel
theorem dX7_search_8 : decode cX7_search 8 = .ok (.invokestatic 20, 3) := by decide +kernel
theorem dX7_search_11 : decode cX7_search 11 = .ok (.istore_n 3, 1) := by decide +kernel
theorem dX7_search_12 : decode cX7_search 12 = .ok (.iconst 0, 1) := by decide +kernel
theorem dX7_search_13 : decode cX7_search 13 = .ok (.istore 4, 2) := by decide +kernel
theorem dX7_search_15 : decode cX7_search 15 = .ok (.iload 4, 2) := by decide +kernel
theorem dX7_search_17 : decode cX7_search 17 = .ok (.iload_n 3, 1) := by decide +kernel
theorem dX7_search_18 : decode cX7_search 18 = .ok (.if_icmp .ge 23, 3) := by decide +kernel
theorem dX7_search_21 : decode cX7_search 21 = .ok (.aload_n 0, 1) := by decide +kernel
theorem dX7_search_22 : decode cX7_search 22 = .ok (.getfield 7, 3) := by decide +kernel
theorem dX7_search_25 : decode cX7_search 25 = .ok (.iload 4, 2) := by decide +kernel
theorem dX7_search_27 : decode cX7_search 27 = .ok (.iload 4, 2) := by decide +kernel
theorem dX7_search_29 : decode cX7_search 29 = .ok (.iload_n 3, 1) := by decide +kernel
theorem dX7_search_30 : decode cX7_search 30 = .ok (.iload_n 2, 1) := by decide +kernel
theorem dX7_search_31 : decode cX7_search 31 = .ok (.invokestatic 26, 3) := by decide +kernel
theorem dX7_search_34 : decode cX7_search 34 = .ok (.iastore, 1) := by decide +kernel
theorem dX7_search_35 : decode cX7_search 35 = .ok (.iinc 4 1, 3) := by decide +kernel
theorem dX7_search_38 : decode cX7_search 38 = .ok (.goto (-23), 3) := by decide +kernel
theorem dX7_search_41 : decode cX7_search 41 = .ok (.aload_n 0, 1) := by decide +kernel
theorem dX7_search_42 : decode cX7_search 42 = .ok (.iconst 0, 1) := by decide +kernel
theorem dX7_search_43 : decode cX7_search 43 = .ok (.putfield 13, 3) := by decide +kernel
theorem dX7_search_46 : decode cX7_search 46 = .ok (.aload_n 0, 1) := by decide +kernel
theorem dX7_search_47 : decode cX7_search 47 = .ok (.iconst 0, 1) := by decide +kernel
theorem dX7_search_48 : decode cX7_search 48 = .ok (.putfield 17, 3) := by decide +kernel
theorem dX7_search_51 : decode cX7_search 51 = .ok (.aload_n 0, 1) := by decide +kernel
theorem dX7_search_52 : decode cX7_search 52 = .ok (.iload_n 3, 1) := by decide +kernel
theorem dX7_search_53 : decode cX7_search 53 = .ok (.iconst 1, 1) := by decide +kernel
theorem dX7_search_54 : decode cX7_search 54 = .ok (.isub, 1) := by decide +kernel
theorem dX7_search_55 : decode cX7_search 55 = .ok (.iconst 1, 1) := by decide +kernel
theorem dX7_search_56 : decode cX7_search 56 = .ok (.iload_n 3, 1) := by decide +kernel
theorem dX7_search_57 : decode cX7_search 57 = .ok (.ishl, 1) := by decide +kernel
theorem dX7_search_58 : decode cX7_search 58 = .ok (.iconst 1, 1) := by decide +kernel
theorem dX7_search_59 : decode cX7_search 59 = .ok (.isub, 1) := by decide +kernel
theorem dX7_search_60 : decode cX7_search 60 = .ok (.iconst 0, 1) := by decide +kernel
theorem dX7_search_61 : decode cX7_search 61 = .ok (.iconst 0, 1) := by decide +kernel
theorem dX7_search_62 : decode cX7_search 62 = .ok (.invokevirtual 30, 3) := by decide +kernel
theorem dX7_search_65 : decode cX7_search 65 = .ok (.return_, 1) := by decide +kernel
theorem dX7_rowsLike_0 : decode cX7_rowsLike 0 = .ok (.iconst 0, 1) := by decide +kernel
theorem dX7_rowsLike_1 : decode cX7_rowsLike 1 = .ok (.istore_n 3, 1) := by decide +kernel
theorem dX7_rowsLike_2 : decode cX7_rowsLike 2 = .ok (.iconst 0, 1) := by decide +kernel
theorem dX7_rowsLike_3 : decode cX7_rowsLike 3 = .ok (.istore 4, 2) := by decide +kernel
theorem dX7_rowsLike_5 : decode cX7_rowsLike 5 = .ok (.iload 4, 2) := by decide +kernel
theorem dX7_rowsLike_7 : decode cX7_rowsLike 7 = .ok (.iload_n 1, 1) := by decide +kernel
theorem dX7_rowsLike_8 : decode cX7_rowsLike 8 = .ok (.if_icmp .ge 50, 3) := by decide +kernel
theorem dX7_rowsLike_11 : decode cX7_rowsLike 11 = .ok (.iload_n 0, 1) := by decide +kernel
theorem dX7_rowsLike_12 : decode cX7_rowsLike 12 = .ok (.iload 4, 2) := by decide +kernel
theorem dX7_rowsLike_14 : decode cX7_rowsLike 14 = .ok (.iconst (-1), 1) := by decide +kernel
theorem dX7_rowsLike_15 : decode cX7_rowsLike 15 = .ok (.ixor, 1) := by decide +kernel
theorem dX7_rowsLike_16 : decode cX7_rowsLike 16 = .ok (.iand, 1) := by decide +kernel
theorem dX7_rowsLike_17 : decode cX7_rowsLike 17 = .ok (.invokestatic 34, 3) := by decide +kernel
theorem dX7_rowsLike_20 : decode cX7_rowsLike 20 = .ok (.istore 5, 2) := by decide +kernel
theorem dX7_rowsLike_22 : decode cX7_rowsLike 22 = .ok (.iload 4, 2) := by decide +kernel
theorem dX7_rowsLike_24 : decode cX7_rowsLike 24 = .ok (.iload_n 0, 1) := by decide +kernel
theorem dX7_rowsLike_25 : decode cX7_rowsLike 25 = .ok (.iconst (-1), 1) := by decide +kernel
theorem dX7_rowsLike_26 : decode cX7_rowsLike 26 = .ok (.ixor, 1) := by decide +kernel
theorem dX7_rowsLike_27 : decode cX7_rowsLike 27 = .ok (.iand, 1) := by decide +kernel
theorem dX7_rowsLike_28 : decode cX7_rowsLike 28 = .ok (.invokestatic 34, 3) := by decide +kernel
theorem dX7_rowsLike_31 : decode cX7_rowsLike 31 = .ok (.istore 6, 2) := by decide +kernel
theorem dX7_rowsLike_33 : decode cX7_rowsLike 33 = .ok (.iload 5, 2) := by decide +kernel
theorem dX7_rowsLike_35 : decode cX7_rowsLike 35 = .ok (.iload_n 2, 1) := by decide +kernel
theorem dX7_rowsLike_36 : decode cX7_rowsLike 36 = .ok (.if_icmp .gt 16, 3) := by decide +kernel
theorem dX7_rowsLike_39 : decode cX7_rowsLike 39 = .ok (.iload 6, 2) := by decide +kernel
theorem dX7_rowsLike_41 : decode cX7_rowsLike 41 = .ok (.iload_n 2, 1) := by decide +kernel
theorem dX7_rowsLike_42 : decode cX7_rowsLike 42 = .ok (.if_icmp .gt 10, 3) := by decide +kernel
theorem dX7_rowsLike_45 : decode cX7_rowsLike 45 = .ok (.iload_n 3, 1) := by decide +kernel
theorem dX7_rowsLike_46 : decode cX7_rowsLike 46 = .ok (.iconst 1, 1) := by decide +kernel
theorem dX7_rowsLike_47 : decode cX7_rowsLike 47 = .ok (.iload 4, 2) := by decide +kernel
theorem dX7_rowsLike_49 : decode cX7_rowsLike 49 = .ok (.ishl, 1) := by decide +kernel
theorem dX7_rowsLike_50 : decode cX7_rowsLike 50 = .ok (.ior, 1) := by decide +kernel
theorem dX7_rowsLike_51 : decode cX7_rowsLike 51 = .ok (.istore_n 3, 1) := by decide +kernel
theorem dX7_rowsLike_52 : decode cX7_rowsLike 52 = .ok (.iinc 4 1, 3) := by decide +kernel
theorem dX7_rowsLike_55 : decode cX7_rowsLike 55 = .ok (.goto (-50), 3) := by decide +kernel
theorem dX7_rowsLike_58 : decode cX7_rowsLike 58 = .ok (.iload_n 3, 1) := by decide +kernel
theorem dX7_rowsLike_59 : decode cX7_rowsLike 59 = .ok (.ireturn, 1) := by decide +kernel
theorem dX7_choose_0 : decode cX7_choose 0 = .ok (.iload 4, 2) := by decide +kernel
theorem dX7_choose_2 : decode cX7_choose 2 = .ok (.iload_n 2, 1) := by decide +kernel
theorem dX7_choose_3 : decode cX7_choose 3 = .ok (.invokestatic 34, 3) := by decide +kernel
theorem dX7_choose_6 : decode cX7_choose 6 = .ok (.iadd, 1) := by decide +kernel
theorem dX7_choose_7 : decode cX7_choose 7 = .ok (.aload_n 0, 1) := by decide +kernel
theorem dX7_choose_8 : decode cX7_choose 8 = .ok (.getfield 13, 3) := by decide +kernel
theorem dX7_choose_11 : decode cX7_choose 11 = .ok (.if_icmp .gt 4, 3) := by decide +kernel
theorem dX7_choose_14 : decode cX7_choose 14 = .ok (.return_, 1) := by decide +kernel
theorem dX7_choose_15 : decode cX7_choose 15 = .ok (.iload_n 1, 1) := by decide +kernel
theorem dX7_choose_16 : decode cX7_choose 16 = .ok (.ifCond .lt 12, 3) := by decide +kernel
theorem dX7_choose_19 : decode cX7_choose 19 = .ok (.iload_n 1, 1) := by decide +kernel
theorem dX7_choose_20 : decode cX7_choose 20 = .ok (.aload_n 0, 1) := by decide +kernel
theorem dX7_choose_21 : decode cX7_choose 21 = .ok (.getfield 7, 3) := by decide +kernel
theorem dX7_choose_24 : decode cX7_choose 24 = .ok (.arraylength, 1) := by decide +kernel
theorem dX7_choose_25 : decode cX7_choose 25 = .ok (.if_icmp .lt 15, 3) := by decide +kernel
theorem dX7_choose_28 : decode cX7_choose 28 = .ok (.aload_n 0, 1) := by decide +kernel
theorem dX7_choose_29 : decode cX7_choose 29 = .ok (.iload 4, 2) := by decide +kernel
theorem dX7_choose_31 : decode cX7_choose 31 = .ok (.putfield 13, 3) := by decide +kernel
theorem dX7_choose_34 : decode cX7_choose 34 = .ok (.aload_n 0, 1) := by decide +kernel
theorem dX7_choose_35 : decode cX7_choose 35 = .ok (.iload_n 3, 1) := by decide +kernel
theorem dX7_choose_36 : decode cX7_choose 36 = .ok (.putfield 17, 3) := by decide +kernel
theorem dX7_choose_39 : decode cX7_choose 39 = .ok (.return_, 1) := by decide +kernel
theorem dX7_choose_40 : decode cX7_choose 40 = .ok (.aload_n 0, 1) := by decide +kernel
theorem dX7_choose_41 : decode cX7_choose 41 = .ok (.iload_n 1, 1) := by decide +kernel
theorem dX7_choose_42 : decode cX7_choose 42 = .ok (.iconst 1, 1) := by decide +kernel
theorem dX7_choose_43 : decode cX7_choose 43 = .ok (.isub, 1) := by decide +kernel
theorem dX7_choose_44 : decode cX7_choose 44 = .ok (.iload_n 2, 1) := by decide +kernel
theorem dX7_choose_45 : decode cX7_choose 45 = .ok (.iconst 1, 1) := by decide +kernel
theorem dX7_choose_46 : decode cX7_choose 46 = .ok (.iload_n 1, 1) := by decide +kernel
theorem dX7_choose_47 : decode cX7_choose 47 = .ok (.ishl, 1) := by decide +kernel
theorem dX7_choose_48 : decode cX7_choose 48 = .ok (.iconst (-1), 1) := by decide +kernel
theorem dX7_choose_49 : decode cX7_choose 49 = .ok (.ixor, 1) := by decide +kernel
theorem dX7_choose_50 : decode cX7_choose 50 = .ok (.iand, 1) := by decide +kernel
theorem dX7_choose_51 : decode cX7_choose 51 = .ok (.iload_n 3, 1) := by decide +kernel
theorem dX7_choose_52 : decode cX7_choose 52 = .ok (.iload 4, 2) := by decide +kernel
theorem dX7_choose_54 : decode cX7_choose 54 = .ok (.invokevirtual 30, 3) := by decide +kernel
theorem dX7_choose_57 : decode cX7_choose 57 = .ok (.iload_n 2, 1) := by decide +kernel
theorem dX7_choose_58 : decode cX7_choose 58 = .ok (.iload_n 1, 1) := by decide +kernel
theorem dX7_choose_59 : decode cX7_choose 59 = .ok (.invokestatic 40, 3) := by decide +kernel
theorem dX7_choose_62 : decode cX7_choose 62 = .ok (.ifCond .eq 29, 3) := by decide +kernel
theorem dX7_choose_65 : decode cX7_choose 65 = .ok (.aload_n 0, 1) := by decide +kernel
theorem dX7_choose_66 : decode cX7_choose 66 = .ok (.iload_n 1, 1) := by decide +kernel
theorem dX7_choose_67 : decode cX7_choose 67 = .ok (.iconst 1, 1) := by decide +kernel
theorem dX7_choose_68 : decode cX7_choose 68 = .ok (.isub, 1) := by decide +kernel
theorem dX7_choose_69 : decode cX7_choose 69 = .ok (.iload_n 2, 1) := by decide +kernel
theorem dX7_choose_70 : decode cX7_choose 70 = .ok (.aload_n 0, 1) := by decide +kernel
theorem dX7_choose_71 : decode cX7_choose 71 = .ok (.getfield 7, 3) := by decide +kernel
theorem dX7_choose_74 : decode cX7_choose 74 = .ok (.iload_n 1, 1) := by decide +kernel
theorem dX7_choose_75 : decode cX7_choose 75 = .ok (.iaload, 1) := by decide +kernel
theorem dX7_choose_76 : decode cX7_choose 76 = .ok (.iconst (-1), 1) := by decide +kernel
theorem dX7_choose_77 : decode cX7_choose 77 = .ok (.ixor, 1) := by decide +kernel
theorem dX7_choose_78 : decode cX7_choose 78 = .ok (.iand, 1) := by decide +kernel
theorem dX7_choose_79 : decode cX7_choose 79 = .ok (.iload_n 3, 1) := by decide +kernel
theorem dX7_choose_80 : decode cX7_choose 80 = .ok (.iconst 1, 1) := by decide +kernel
theorem dX7_choose_81 : decode cX7_choose 81 = .ok (.iload_n 1, 1) := by decide +kernel
theorem dX7_choose_82 : decode cX7_choose 82 = .ok (.ishl, 1) := by decide +kernel
theorem dX7_choose_83 : decode cX7_choose 83 = .ok (.ior, 1) := by decide +kernel
theorem dX7_choose_84 : decode cX7_choose 84 = .ok (.iload 4, 2) := by decide +kernel
theorem dX7_choose_86 : decode cX7_choose 86 = .ok (.iconst 1, 1) := by decide +kernel
theorem dX7_choose_87 : decode cX7_choose 87 = .ok (.iadd, 1) := by decide +kernel
theorem dX7_choose_88 : decode cX7_choose 88 = .ok (.invokevirtual 30, 3) := by decide +kernel
theorem dX7_choose_91 : decode cX7_choose 91 = .ok (.return_, 1) := by decide +kernel
theorem dX8_init_0 : decode cX8_init 0 = .ok (.aload_n 0, 1) := by decide +kernel
theorem dX8_init_1 : decode cX8_init 1 = .ok (.invokespecial 3, 3) := by decide +kernel
theorem dX8_init_4 : decode cX8_init 4 = .ok (.aload_n 0, 1) := by decide +kernel
theorem dX8_init_5 : decode cX8_init 5 = .ok (.bipush 12, 2) := by decide +kernel
theorem dX8_init_7 : decode cX8_init 7 = .ok (.newarray .int, 2) := by decide +kernel
theorem dX8_init_9 : decode cX8_init 9 = .ok (.putfield 11, 3) := by decide +kernel
theorem dX8_init_12 : decode cX8_init 12 = .ok (.aload_n 0, 1) := by decide +kernel
theorem dX8_init_13 : decode cX8_init 13 = .ok (.bipush 12, 2) := by decide +kernel
theorem dX8_init_15 : decode cX8_init 15 = .ok (.newarray .int, 2) := by decide +kernel
theorem dX8_init_17 : decode cX8_init 17 = .ok (.putfield 15, 3) := by decide +kernel
theorem dX8_init_20 : decode cX8_init 20 = .ok (.aload_n 0, 1) := by decide +kernel
theorem dX8_init_21 : decode cX8_init 21 = .ok (.bipush 110, 2) := by decide +kernel
theorem dX8_init_23 : decode cX8_init 23 = .ok (.newarray .int, 2) := by decide +kernel
theorem dX8_init_25 : decode cX8_init 25 = .ok (.putfield 18, 3) := by decide +kernel
theorem dX8_init_28 : decode cX8_init 28 = .ok (.return_, 1) := by decide +kernel
theorem dX8_size_0 : decode cX8_size 0 = .ok (.aload_n 0, 1) := by decide +kernel
theorem dX8_size_1 : decode cX8_size 1 = .ok (.getfield 21, 3) := by decide +kernel
theorem dX8_size_4 : decode cX8_size 4 = .ok (.ireturn, 1) := by decide +kernel
theorem dX8_clear_0 : decode cX8_clear 0 = .ok (.aload_n 0, 1) := by decide +kernel
theorem dX8_clear_1 : decode cX8_clear 1 = .ok (.iconst 0, 1) := by decide +kernel
theorem dX8_clear_2 : decode cX8_clear 2 = .ok (.putfield 21, 3) := by decide +kernel
theorem dX8_clear_5 : decode cX8_clear 5 = .ok (.return_, 1) := by decide +kernel
theorem dX8_add_0 : decode cX8_add 0 = .ok (.aload_n 0, 1) := by decide +kernel
theorem dX8_add_1 : decode cX8_add 1 = .ok (.getfield 21, 3) := by decide +kernel
theorem dX8_add_4 : decode cX8_add 4 = .ok (.bipush 12, 2) := by decide +kernel
theorem dX8_add_6 : decode cX8_add 6 = .ok (.if_icmp .lt 6, 3) := by decide +kernel
theorem dX8_add_9 : decode cX8_add 9 = .ok (.bipush (-104), 2) := by decide +kernel
theorem dX8_add_11 : decode cX8_add 11 = .ok (.ireturn, 1) := by decide +kernel
theorem dX8_add_12 : decode cX8_add 12 = .ok (.aload_n 0, 1) := by decide +kernel
theorem dX8_add_13 : decode cX8_add 13 = .ok (.getfield 11, 3) := by decide +kernel
theorem dX8_add_16 : decode cX8_add 16 = .ok (.aload_n 0, 1) := by decide +kernel
theorem dX8_add_17 : decode cX8_add 17 = .ok (.getfield 21, 3) := by decide +kernel
theorem dX8_add_20 : decode cX8_add 20 = .ok (.iload_n 1, 1) := by decide +kernel
theorem dX8_add_21 : decode cX8_add 21 = .ok (.iastore, 1) := by decide +kernel
theorem dX8_add_22 : decode cX8_add 22 = .ok (.aload_n 0, 1) := by decide +kernel
theorem dX8_add_23 : decode cX8_add 23 = .ok (.getfield 15, 3) := by decide +kernel
theorem dX8_add_26 : decode cX8_add 26 = .ok (.aload_n 0, 1) := by decide +kernel
theorem dX8_add_27 : decode cX8_add 27 = .ok (.getfield 21, 3) := by decide +kernel
theorem dX8_add_30 : decode cX8_add 30 = .ok (.iload_n 2, 1) := by decide +kernel
theorem dX8_add_31 : decode cX8_add 31 = .ok (.iastore, 1) := by decide +kernel
theorem dX8_add_32 : decode cX8_add 32 = .ok (.aload_n 0, 1) := by decide +kernel
theorem dX8_add_33 : decode cX8_add 33 = .ok (.dup, 1) := by decide +kernel
theorem dX8_add_34 : decode cX8_add 34 = .ok (.getfield 21, 3) := by decide +kernel
theorem dX8_add_37 : decode cX8_add 37 = .ok (.iconst 1, 1) := by decide +kernel
theorem dX8_add_38 : decode cX8_add 38 = .ok (.iadd, 1) := by decide +kernel
theorem dX8_add_39 : decode cX8_add 39 = .ok (.putfield 21, 3) := by decide +kernel
theorem dX8_add_42 : decode cX8_add 42 = .ok (.aload_n 0, 1) := by decide +kernel
theorem dX8_add_43 : decode cX8_add 43 = .ok (.getfield 21, 3) := by decide +kernel
theorem dX8_add_46 : decode cX8_add 46 = .ok (.ireturn, 1) := by decide +kernel
theorem dX8_copyFrom_0 : decode cX8_copyFrom 0 = .ok (.aload_n 1, 1) := by decide +kernel
theorem dX8_copyFrom_1 : decode cX8_copyFrom 1 = .ok (.getfield 11, 3) := by decide +kernel
theorem dX8_copyFrom_4 : decode cX8_copyFrom 4 = .ok (.iconst 0, 1) := by decide +kernel
theorem dX8_copyFrom_5 : decode cX8_copyFrom 5 = .ok (.aload_n 0, 1) := by decide +kernel
theorem dX8_copyFrom_6 : decode cX8_copyFrom 6 = .ok (.getfield 11, 3) := by decide +kernel
theorem dX8_copyFrom_9 : decode cX8_copyFrom 9 = .ok (.iconst 0, 1) := by decide +kernel
theorem dX8_copyFrom_10 : decode cX8_copyFrom 10 = .ok (.bipush 12, 2) := by decide +kernel
theorem dX8_copyFrom_12 : decode cX8_copyFrom 12 = .ok (.invokestatic 25, 3) := by decide +kernel
theorem dX8_copyFrom_15 : decode cX8_copyFrom 15 = .ok (.aload_n 1, 1) := by decide +kernel
theorem dX8_copyFrom_16 : decode cX8_copyFrom 16 = .ok (.getfield 15, 3) := by decide +kernel
theorem dX8_copyFrom_19 : decode cX8_copyFrom 19 = .ok (.iconst 0, 1) := by decide +kernel
theorem dX8_copyFrom_20 : decode cX8_copyFrom 20 = .ok (.aload_n 0, 1) := by decide +kernel
theorem dX8_copyFrom_21 : decode cX8_copyFrom 21 = .ok (.getfield 15, 3) := by decide +kernel
theorem dX8_copyFrom_24 : decode cX8_copyFrom 24 = .ok (.iconst 0, 1) := by decide +kernel
theorem dX8_copyFrom_25 : decode cX8_copyFrom 25 = .ok (.bipush 12, 2) := by decide +kernel
theorem dX8_copyFrom_27 : decode cX8_copyFrom 27 = .ok (.invokestatic 25, 3) := by decide +kernel
theorem dX8_copyFrom_30 : decode cX8_copyFrom 30 = .ok (.aload_n 0, 1) := by decide +kernel
theorem dX8_copyFrom_31 : decode cX8_copyFrom 31 = .ok (.aload_n 1, 1) := by decide +kernel
theorem dX8_copyFrom_32 : decode cX8_copyFrom 32 = .ok (.getfield 21, 3) := by decide +kernel
theorem dX8_copyFrom_35 : decode cX8_copyFrom 35 = .ok (.putfield 21, 3) := by decide +kernel
theorem dX8_copyFrom_38 : decode cX8_copyFrom 38 = .ok (.return_, 1) := by decide +kernel
theorem dX8_ofPerson_0 : decode cX8_ofPerson 0 = .ok (.iconst 0, 1) := by decide +kernel
theorem dX8_ofPerson_1 : decode cX8_ofPerson 1 = .ok (.istore_n 2, 1) := by decide +kernel
theorem dX8_ofPerson_2 : decode cX8_ofPerson 2 = .ok (.iconst 0, 1) := by decide +kernel
theorem dX8_ofPerson_3 : decode cX8_ofPerson 3 = .ok (.istore_n 3, 1) := by decide +kernel
theorem dX8_ofPerson_4 : decode cX8_ofPerson 4 = .ok (.iload_n 3, 1) := by decide +kernel
theorem dX8_ofPerson_5 : decode cX8_ofPerson 5 = .ok (.aload_n 0, 1) := by decide +kernel
theorem dX8_ofPerson_6 : decode cX8_ofPerson 6 = .ok (.getfield 21, 3) := by decide +kernel
theorem dX8_ofPerson_9 : decode cX8_ofPerson 9 = .ok (.if_icmp .ge 28, 3) := by decide +kernel
theorem dX8_ofPerson_12 : decode cX8_ofPerson 12 = .ok (.iload_n 3, 1) := by decide +kernel
theorem dX8_ofPerson_13 : decode cX8_ofPerson 13 = .ok (.bipush 12, 2) := by decide +kernel
theorem dX8_ofPerson_15 : decode cX8_ofPerson 15 = .ok (.if_icmp .ge 22, 3) := by decide +kernel
theorem dX8_ofPerson_18 : decode cX8_ofPerson 18 = .ok (.aload_n 0, 1) := by decide +kernel
theorem dX8_ofPerson_19 : decode cX8_ofPerson 19 = .ok (.getfield 11, 3) := by decide +kernel
theorem dX8_ofPerson_22 : decode cX8_ofPerson 22 = .ok (.iload_n 3, 1) := by decide +kernel
theorem dX8_ofPerson_23 : decode cX8_ofPerson 23 = .ok (.iaload, 1) := by decide +kernel
theorem dX8_ofPerson_24 : decode cX8_ofPerson 24 = .ok (.iload_n 1, 1) := by decide +kernel
theorem dX8_ofPerson_25 : decode cX8_ofPerson 25 = .ok (.if_icmp .ne 6, 3) := by decide +kernel
theorem dX8_ofPerson_28 : decode cX8_ofPerson 28 = .ok (.iinc 2 1, 3) := by decide +kernel
theorem dX8_ofPerson_31 : decode cX8_ofPerson 31 = .ok (.iinc 3 1, 3) := by decide +kernel
theorem dX8_ofPerson_34 : decode cX8_ofPerson 34 = .ok (.goto (-30), 3) := by decide +kernel
theorem dX8_ofPerson_37 : decode cX8_ofPerson 37 = .ok (.iload_n 2, 1) := by decide +kernel
theorem dX8_ofPerson_38 : decode cX8_ofPerson 38 = .ok (.ireturn, 1) := by decide +kernel
theorem dX8_timesFelt_0 : decode cX8_timesFelt 0 = .ok (.iconst 0, 1) := by decide +kernel
theorem dX8_timesFelt_1 : decode cX8_timesFelt 1 = .ok (.istore 5, 2) := by decide +kernel
theorem dX8_timesFelt_3 : decode cX8_timesFelt 3 = .ok (.iconst 0, 1) := by decide +kernel
theorem dX8_timesFelt_4 : decode cX8_timesFelt 4 = .ok (.istore 6, 2) := by decide +kernel
theorem dX8_timesFelt_6 : decode cX8_timesFelt 6 = .ok (.iload 6, 2) := by decide +kernel
theorem dX8_timesFelt_8 : decode cX8_timesFelt 8 = .ok (.aload_n 0, 1) := by decide +kernel
theorem dX8_timesFelt_9 : decode cX8_timesFelt 9 = .ok (.getfield 21, 3) := by decide +kernel
theorem dX8_timesFelt_12 : decode cX8_timesFelt 12 = .ok (.if_icmp .ge 58, 3) := by decide +kernel
theorem dX8_timesFelt_15 : decode cX8_timesFelt 15 = .ok (.iload 6, 2) := by decide +kernel
theorem dX8_timesFelt_17 : decode cX8_timesFelt 17 = .ok (.bipush 12, 2) := by decide +kernel
theorem dX8_timesFelt_19 : decode cX8_timesFelt 19 = .ok (.if_icmp .ge 51, 3) := by decide +kernel
theorem dX8_timesFelt_22 : decode cX8_timesFelt 22 = .ok (.aload_n 1, 1) := by decide +kernel
theorem dX8_timesFelt_23 : decode cX8_timesFelt 23 = .ok (.aload_n 0, 1) := by decide +kernel
theorem dX8_timesFelt_24 : decode cX8_timesFelt 24 = .ok (.getfield 11, 3) := by decide +kernel
theorem dX8_timesFelt_27 : decode cX8_timesFelt 27 = .ok (.iload 6, 2) := by decide +kernel
theorem dX8_timesFelt_29 : decode cX8_timesFelt 29 = .ok (.iaload, 1) := by decide +kernel
theorem dX8_timesFelt_30 : decode cX8_timesFelt 30 = .ok (.iload_n 2, 1) := by decide +kernel
theorem dX8_timesFelt_31 : decode cX8_timesFelt 31 = .ok (.invokevirtual 31, 3) := by decide +kernel
theorem dX8_timesFelt_34 : decode cX8_timesFelt 34 = .ok (.istore 7, 2) := by decide +kernel
theorem dX8_timesFelt_36 : decode cX8_timesFelt 36 = .ok (.iload 7, 2) := by decide +kernel
theorem dX8_timesFelt_38 : decode cX8_timesFelt 38 = .ok (.iconst (-1), 1) := by decide +kernel
theorem dX8_timesFelt_39 : decode cX8_timesFelt 39 = .ok (.if_icmp .eq 25, 3) := by decide +kernel
theorem dX8_timesFelt_42 : decode cX8_timesFelt 42 = .ok (.aload_n 0, 1) := by decide +kernel
theorem dX8_timesFelt_43 : decode cX8_timesFelt 43 = .ok (.getfield 15, 3) := by decide +kernel
theorem dX8_timesFelt_46 : decode cX8_timesFelt 46 = .ok (.iload 6, 2) := by decide +kernel
theorem dX8_timesFelt_48 : decode cX8_timesFelt 48 = .ok (.iaload, 1) := by decide +kernel
theorem dX8_timesFelt_49 : decode cX8_timesFelt 49 = .ok (.iload 7, 2) := by decide +kernel
theorem dX8_timesFelt_51 : decode cX8_timesFelt 51 = .ok (.iadd, 1) := by decide +kernel
theorem dX8_timesFelt_52 : decode cX8_timesFelt 52 = .ok (.iload_n 3, 1) := by decide +kernel
theorem dX8_timesFelt_53 : decode cX8_timesFelt 53 = .ok (.iload 4, 2) := by decide +kernel
theorem dX8_timesFelt_55 : decode cX8_timesFelt 55 = .ok (.invokestatic 37, 3) := by decide +kernel
theorem dX8_timesFelt_58 : decode cX8_timesFelt 58 = .ok (.ifCond .eq 6, 3) := by decide +kernel
theorem dX8_timesFelt_61 : decode cX8_timesFelt 61 = .ok (.iinc 5 1, 3) := by decide +kernel
theorem dX8_timesFelt_64 : decode cX8_timesFelt 64 = .ok (.iinc 6 1, 3) := by decide +kernel
theorem dX8_timesFelt_67 : decode cX8_timesFelt 67 = .ok (.goto (-61), 3) := by decide +kernel
theorem dX8_timesFelt_70 : decode cX8_timesFelt 70 = .ok (.iload 5, 2) := by decide +kernel
theorem dX8_timesFelt_72 : decode cX8_timesFelt 72 = .ok (.ireturn, 1) := by decide +kernel
theorem dX8_firstOver_0 : decode cX8_firstOver 0 = .ok (.aload_n 0, 1) := by decide +kernel
theorem dX8_firstOver_1 : decode cX8_firstOver 1 = .ok (.getfield 18, 3) := by decide +kernel
theorem dX8_firstOver_4 : decode cX8_firstOver 4 = .ok (.iconst 0, 1) := by decide +kernel
theorem dX8_firstOver_5 : decode cX8_firstOver 5 = .ok (.invokestatic 41, 3) := by decide +kernel
theorem dX8_firstOver_8 : decode cX8_firstOver 8 = .ok (.iconst 0, 1) := by decide +kernel
theorem dX8_firstOver_9 : decode cX8_firstOver 9 = .ok (.istore_n 2, 1) := by decide +kernel
theorem dX8_firstOver_10 : decode cX8_firstOver 10 = .ok (.iload_n 2, 1) := by decide +kernel
theorem dX8_firstOver_11 : decode cX8_firstOver 11 = .ok (.aload_n 0, 1) := by decide +kernel
theorem dX8_firstOver_12 : decode cX8_firstOver 12 = .ok (.getfield 21, 3) := by decide +kernel
theorem dX8_firstOver_15 : decode cX8_firstOver 15 = .ok (.if_icmp .ge 37, 3) := by decide +kernel
theorem dX8_firstOver_18 : decode cX8_firstOver 18 = .ok (.iload_n 2, 1) := by decide +kernel
theorem dX8_firstOver_19 : decode cX8_firstOver 19 = .ok (.bipush 12, 2) := by decide +kernel
theorem dX8_firstOver_21 : decode cX8_firstOver 21 = .ok (.if_icmp .ge 31, 3) := by decide +kernel
theorem dX8_firstOver_24 : decode cX8_firstOver 24 = .ok (.aload_n 0, 1) := by decide +kernel
theorem dX8_firstOver_25 : decode cX8_firstOver 25 = .ok (.aload_n 1, 1) := by decide +kernel
theorem dX8_firstOver_26 : decode cX8_firstOver 26 = .ok (.aload_n 0, 1) := by decide +kernel
theorem dX8_firstOver_27 : decode cX8_firstOver 27 = .ok (.getfield 11, 3) := by decide +kernel
theorem dX8_firstOver_30 : decode cX8_firstOver 30 = .ok (.iload_n 2, 1) := by decide +kernel
theorem dX8_firstOver_31 : decode cX8_firstOver 31 = .ok (.iaload, 1) := by decide +kernel
theorem dX8_firstOver_32 : decode cX8_firstOver 32 = .ok (.aload_n 0, 1) := by decide +kernel
theorem dX8_firstOver_33 : decode cX8_firstOver 33 = .ok (.getfield 15, 3) := by decide +kernel
theorem dX8_firstOver_36 : decode cX8_firstOver 36 = .ok (.iload_n 2, 1) := by decide +kernel
theorem dX8_firstOver_37 : decode cX8_firstOver 37 = .ok (.iaload, 1) := by decide +kernel
theorem dX8_firstOver_38 : decode cX8_firstOver 38 = .ok (.invokevirtual 47, 3) := by decide +kernel
theorem dX8_firstOver_41 : decode cX8_firstOver 41 = .ok (.ifCond .eq 5, 3) := by decide +kernel
theorem dX8_firstOver_44 : decode cX8_firstOver 44 = .ok (.iload_n 2, 1) := by decide +kernel
theorem dX8_firstOver_45 : decode cX8_firstOver 45 = .ok (.ireturn, 1) := by decide +kernel
theorem dX8_firstOver_46 : decode cX8_firstOver 46 = .ok (.iinc 2 1, 3) := by decide +kernel
theorem dX8_firstOver_49 : decode cX8_firstOver 49 = .ok (.goto (-39), 3) := by decide +kernel
theorem dX8_firstOver_52 : decode cX8_firstOver 52 = .ok (.iconst (-1), 1) := by decide +kernel
theorem dX8_firstOver_53 : decode cX8_firstOver 53 = .ok (.ireturn, 1) := by decide +kernel
theorem dX8_isOverBehind_0 : decode cX8_isOverBehind 0 = .ok (.iconst 0, 1) := by decide +kernel
theorem dX8_isOverBehind_1 : decode cX8_isOverBehind 1 = .ok (.istore 4, 2) := by decide +kernel
theorem dX8_isOverBehind_3 : decode cX8_isOverBehind 3 = .ok (.iconst 0, 1) := by decide +kernel
theorem dX8_isOverBehind_4 : decode cX8_isOverBehind 4 = .ok (.istore 5, 2) := by decide +kernel
theorem dX8_isOverBehind_6 : decode cX8_isOverBehind 6 = .ok (.iload 5, 2) := by decide +kernel
theorem dX8_isOverBehind_8 : decode cX8_isOverBehind 8 = .ok (.bipush 10, 2) := by decide +kernel
theorem dX8_isOverBehind_10 : decode cX8_isOverBehind 10 = .ok (.if_icmp .ge 59, 3) := by decide +kernel
theorem dX8_isOverBehind_13 : decode cX8_isOverBehind 13 = .ok (.iload 5, 2) := by decide +kernel
theorem dX8_isOverBehind_15 : decode cX8_isOverBehind 15 = .ok (.iload_n 2, 1) := by decide +kernel
theorem dX8_isOverBehind_16 : decode cX8_isOverBehind 16 = .ok (.if_icmp .ne 7, 3) := by decide +kernel
theorem dX8_isOverBehind_19 : decode cX8_isOverBehind 19 = .ok (.iconst 0, 1) := by decide +kernel
theorem dX8_isOverBehind_20 : decode cX8_isOverBehind 20 = .ok (.goto 10, 3) := by decide +kernel
theorem dX8_isOverBehind_23 : decode cX8_isOverBehind 23 = .ok (.aload_n 1, 1) := by decide +kernel
theorem dX8_isOverBehind_24 : decode cX8_isOverBehind 24 = .ok (.iload_n 2, 1) := by decide +kernel
theorem dX8_isOverBehind_25 : decode cX8_isOverBehind 25 = .ok (.iload 5, 2) := by decide +kernel
theorem dX8_isOverBehind_27 : decode cX8_isOverBehind 27 = .ok (.invokevirtual 31, 3) := by decide +kernel
theorem dX8_isOverBehind_30 : decode cX8_isOverBehind 30 = .ok (.istore 6, 2) := by decide +kernel
theorem dX8_isOverBehind_32 : decode cX8_isOverBehind 32 = .ok (.iload 6, 2) := by decide +kernel
theorem dX8_isOverBehind_34 : decode cX8_isOverBehind 34 = .ok (.iconst (-1), 1) := by decide +kernel
theorem dX8_isOverBehind_35 : decode cX8_isOverBehind 35 = .ok (.if_icmp .eq 28, 3) := by decide +kernel
theorem dX8_isOverBehind_38 : decode cX8_isOverBehind 38 = .ok (.iload 4, 2) := by decide +kernel
theorem dX8_isOverBehind_40 : decode cX8_isOverBehind 40 = .ok (.aload_n 0, 1) := by decide +kernel
theorem dX8_isOverBehind_41 : decode cX8_isOverBehind 41 = .ok (.iload 5, 2) := by decide +kernel
theorem dX8_isOverBehind_43 : decode cX8_isOverBehind 43 = .ok (.iload_n 3, 1) := by decide +kernel
theorem dX8_isOverBehind_44 : decode cX8_isOverBehind 44 = .ok (.iload 6, 2) := by decide +kernel
theorem dX8_isOverBehind_46 : decode cX8_isOverBehind 46 = .ok (.iadd, 1) := by decide +kernel
theorem dX8_isOverBehind_47 : decode cX8_isOverBehind 47 = .ok (.invokevirtual 51, 3) := by decide +kernel
theorem dX8_isOverBehind_50 : decode cX8_isOverBehind 50 = .ok (.bipush 9, 2) := by decide +kernel
theorem dX8_isOverBehind_52 : decode cX8_isOverBehind 52 = .ok (.if_icmp .le 7, 3) := by decide +kernel
theorem dX8_isOverBehind_55 : decode cX8_isOverBehind 55 = .ok (.iconst 1, 1) := by decide +kernel
theorem dX8_isOverBehind_56 : decode cX8_isOverBehind 56 = .ok (.goto 4, 3) := by decide +kernel
theorem dX8_isOverBehind_59 : decode cX8_isOverBehind 59 = .ok (.iconst 0, 1) := by decide +kernel
theorem dX8_isOverBehind_60 : decode cX8_isOverBehind 60 = .ok (.ior, 1) := by decide +kernel
theorem dX8_isOverBehind_61 : decode cX8_isOverBehind 61 = .ok (.istore 4, 2) := by decide +kernel
theorem dX8_isOverBehind_63 : decode cX8_isOverBehind 63 = .ok (.iinc 5 1, 3) := by decide +kernel
theorem dX8_isOverBehind_66 : decode cX8_isOverBehind 66 = .ok (.goto (-60), 3) := by decide +kernel
theorem dX8_isOverBehind_69 : decode cX8_isOverBehind 69 = .ok (.iload 4, 2) := by decide +kernel
theorem dX8_isOverBehind_71 : decode cX8_isOverBehind 71 = .ok (.ireturn, 1) := by decide +kernel
theorem dX8_talliedFor_0 : decode cX8_talliedFor 0 = .ok (.iload_n 1, 1) := by decide +kernel
theorem dX8_talliedFor_1 : decode cX8_talliedFor 1 = .ok (.bipush 11, 2) := by decide +kernel
theorem dX8_talliedFor_3 : decode cX8_talliedFor 3 = .ok (.imul, 1) := by decide +kernel
theorem dX8_talliedFor_4 : decode cX8_talliedFor 4 = .ok (.iload_n 2, 1) := by decide +kernel
theorem dX8_talliedFor_5 : decode cX8_talliedFor 5 = .ok (.bipush 100, 2) := by decide +kernel
theorem dX8_talliedFor_7 : decode cX8_talliedFor 7 = .ok (.idiv, 1) := by decide +kernel
theorem dX8_talliedFor_8 : decode cX8_talliedFor 8 = .ok (.iadd, 1) := by decide +kernel
theorem dX8_talliedFor_9 : decode cX8_talliedFor 9 = .ok (.istore_n 3, 1) := by decide +kernel
theorem dX8_talliedFor_10 : decode cX8_talliedFor 10 = .ok (.iload_n 3, 1) := by decide +kernel
theorem dX8_talliedFor_11 : decode cX8_talliedFor 11 = .ok (.ifCond .lt 12, 3) := by decide +kernel
theorem dX8_talliedFor_14 : decode cX8_talliedFor 14 = .ok (.iload_n 3, 1) := by decide +kernel
theorem dX8_talliedFor_15 : decode cX8_talliedFor 15 = .ok (.aload_n 0, 1) := by decide +kernel
theorem dX8_talliedFor_16 : decode cX8_talliedFor 16 = .ok (.getfield 18, 3) := by decide +kernel
theorem dX8_talliedFor_19 : decode cX8_talliedFor 19 = .ok (.arraylength, 1) := by decide +kernel
theorem dX8_talliedFor_20 : decode cX8_talliedFor 20 = .ok (.if_icmp .lt 5, 3) := by decide +kernel
theorem dX8_talliedFor_23 : decode cX8_talliedFor 23 = .ok (.iconst 0, 1) := by decide +kernel
theorem dX8_talliedFor_24 : decode cX8_talliedFor 24 = .ok (.ireturn, 1) := by decide +kernel
theorem dX8_talliedFor_25 : decode cX8_talliedFor 25 = .ok (.aload_n 0, 1) := by decide +kernel
theorem dX8_talliedFor_26 : decode cX8_talliedFor 26 = .ok (.getfield 18, 3) := by decide +kernel
theorem dX8_talliedFor_29 : decode cX8_talliedFor 29 = .ok (.iload_n 3, 1) := by decide +kernel
theorem dX8_talliedFor_30 : decode cX8_talliedFor 30 = .ok (.dup2, 1) := by decide +kernel
theorem dX8_talliedFor_31 : decode cX8_talliedFor 31 = .ok (.iaload, 1) := by decide +kernel
theorem dX8_talliedFor_32 : decode cX8_talliedFor 32 = .ok (.iconst 1, 1) := by decide +kernel
theorem dX8_talliedFor_33 : decode cX8_talliedFor 33 = .ok (.iadd, 1) := by decide +kernel
theorem dX8_talliedFor_34 : decode cX8_talliedFor 34 = .ok (.iastore, 1) := by decide +kernel
theorem dX8_talliedFor_35 : decode cX8_talliedFor 35 = .ok (.aload_n 0, 1) := by decide +kernel
theorem dX8_talliedFor_36 : decode cX8_talliedFor 36 = .ok (.getfield 18, 3) := by decide +kernel
theorem dX8_talliedFor_39 : decode cX8_talliedFor 39 = .ok (.iload_n 3, 1) := by decide +kernel
theorem dX8_talliedFor_40 : decode cX8_talliedFor 40 = .ok (.iaload, 1) := by decide +kernel
theorem dX8_talliedFor_41 : decode cX8_talliedFor 41 = .ok (.ireturn, 1) := by decide +kernel
theorem dX9_init_0 : decode cX9_init 0 = .ok (.aload_n 0, 1) := by decide +kernel
theorem dX9_init_1 : decode cX9_init 1 = .ok (.invokespecial 3, 3) := by decide +kernel
theorem dX9_init_4 : decode cX9_init 4 = .ok (.aload_n 0, 1) := by decide +kernel
theorem dX9_init_5 : decode cX9_init 5 = .ok (.bipush 36, 2) := by decide +kernel
theorem dX9_init_7 : decode cX9_init 7 = .ok (.newarray .int, 2) := by decide +kernel
theorem dX9_init_9 : decode cX9_init 9 = .ok (.putfield 9, 3) := by decide +kernel
theorem dX9_init_12 : decode cX9_init 12 = .ok (.return_, 1) := by decide +kernel
theorem dX9_between_0 : decode cX9_between 0 = .ok (.iload_n 1, 1) := by decide +kernel
theorem dX9_between_1 : decode cX9_between 1 = .ok (.invokestatic 15, 3) := by decide +kernel
theorem dX9_between_4 : decode cX9_between 4 = .ok (.ifCond .eq 24, 3) := by decide +kernel
theorem dX9_between_7 : decode cX9_between 7 = .ok (.iload_n 2, 1) := by decide +kernel
theorem dX9_between_8 : decode cX9_between 8 = .ok (.invokestatic 15, 3) := by decide +kernel
theorem dX9_between_11 : decode cX9_between 11 = .ok (.ifCond .eq 17, 3) := by decide +kernel
theorem dX9_between_14 : decode cX9_between 14 = .ok (.aload_n 0, 1) := by decide +kernel
theorem dX9_between_15 : decode cX9_between 15 = .ok (.getfield 9, 3) := by decide +kernel
theorem dX9_between_18 : decode cX9_between 18 = .ok (.iload_n 1, 1) := by decide +kernel
theorem dX9_between_19 : decode cX9_between 19 = .ok (.bipush 6, 2) := by decide +kernel
theorem dX9_between_21 : decode cX9_between 21 = .ok (.imul, 1) := by decide +kernel
theorem dX9_between_22 : decode cX9_between 22 = .ok (.iload_n 2, 1) := by decide +kernel
theorem dX9_between_23 : decode cX9_between 23 = .ok (.iadd, 1) := by decide +kernel
theorem dX9_between_24 : decode cX9_between 24 = .ok (.iaload, 1) := by decide +kernel
theorem dX9_between_25 : decode cX9_between 25 = .ok (.goto 5, 3) := by decide +kernel
theorem dX9_between_28 : decode cX9_between 28 = .ok (.ldc 19, 2) := by decide +kernel
theorem dX9_between_30 : decode cX9_between 30 = .ok (.ireturn, 1) := by decide +kernel
theorem dX9_clear_0 : decode cX9_clear 0 = .ok (.aload_n 0, 1) := by decide +kernel
theorem dX9_clear_1 : decode cX9_clear 1 = .ok (.getfield 9, 3) := by decide +kernel
theorem dX9_clear_4 : decode cX9_clear 4 = .ok (.ldc 19, 2) := by decide +kernel
theorem dX9_clear_6 : decode cX9_clear 6 = .ok (.invokestatic 20, 3) := by decide +kernel
theorem dX9_clear_9 : decode cX9_clear 9 = .ok (.iconst 0, 1) := by decide +kernel
theorem dX9_clear_10 : decode cX9_clear 10 = .ok (.istore_n 1, 1) := by decide +kernel
theorem dX9_clear_11 : decode cX9_clear 11 = .ok (.iload_n 1, 1) := by decide +kernel
theorem dX9_clear_12 : decode cX9_clear 12 = .ok (.bipush 6, 2) := by decide +kernel
theorem dX9_clear_14 : decode cX9_clear 14 = .ok (.if_icmp .ge 16, 3) := by decide +kernel
theorem dX9_clear_17 : decode cX9_clear 17 = .ok (.aload_n 0, 1) := by decide +kernel
theorem dX9_clear_18 : decode cX9_clear 18 = .ok (.iload_n 1, 1) := by decide +kernel
theorem dX9_clear_19 : decode cX9_clear 19 = .ok (.iload_n 1, 1) := by decide +kernel
theorem dX9_clear_20 : decode cX9_clear 20 = .ok (.iconst 0, 1) := by decide +kernel
theorem dX9_clear_21 : decode cX9_clear 21 = .ok (.invokevirtual 26, 3) := by decide +kernel
theorem dX9_clear_24 : decode cX9_clear 24 = .ok (.iinc 1 1, 3) := by decide +kernel
theorem dX9_clear_27 : decode cX9_clear 27 = .ok (.goto (-16), 3) := by decide +kernel
theorem dX9_clear_30 : decode cX9_clear 30 = .ok (.return_, 1) := by decide +kernel
theorem dX9_shorten_0 : decode cX9_shorten 0 = .ok (.iload_n 1, 1) := by decide +kernel
theorem dX9_shorten_1 : decode cX9_shorten 1 = .ok (.invokestatic 15, 3) := by decide +kernel
theorem dX9_shorten_4 : decode cX9_shorten 4 = .ok (.ifCond .eq 10, 3) := by decide +kernel
theorem dX9_shorten_7 : decode cX9_shorten 7 = .ok (.iload_n 2, 1) := by decide +kernel
theorem dX9_shorten_8 : decode cX9_shorten 8 = .ok (.invokestatic 15, 3) := by decide +kernel
theorem dX9_shorten_11 : decode cX9_shorten 11 = .ok (.ifCond .ne 4, 3) := by decide +kernel
theorem dX9_shorten_14 : decode cX9_shorten 14 = .ok (.return_, 1) := by decide +kernel
theorem dX9_shorten_15 : decode cX9_shorten 15 = .ok (.iload_n 1, 1) := by decide +kernel
theorem dX9_shorten_16 : decode cX9_shorten 16 = .ok (.bipush 6, 2) := by decide +kernel
theorem dX9_shorten_18 : decode cX9_shorten 18 = .ok (.imul, 1) := by decide +kernel
theorem dX9_shorten_19 : decode cX9_shorten 19 = .ok (.iload_n 2, 1) := by decide +kernel
theorem dX9_shorten_20 : decode cX9_shorten 20 = .ok (.iadd, 1) := by decide +kernel
theorem dX9_shorten_21 : decode cX9_shorten 21 = .ok (.istore 4, 2) := by decide +kernel
theorem dX9_shorten_23 : decode cX9_shorten 23 = .ok (.aload_n 0, 1) := by decide +kernel
theorem dX9_shorten_24 : decode cX9_shorten 24 = .ok (.getfield 9, 3) := by decide +kernel
theorem dX9_shorten_27 : decode cX9_shorten 27 = .ok (.iload 4, 2) := by decide +kernel
theorem dX9_shorten_29 : decode cX9_shorten 29 = .ok (.aload_n 0, 1) := by decide +kernel
theorem dX9_shorten_30 : decode cX9_shorten 30 = .ok (.getfield 9, 3) := by decide +kernel
theorem dX9_shorten_33 : decode cX9_shorten 33 = .ok (.iload 4, 2) := by decide +kernel
theorem dX9_shorten_35 : decode cX9_shorten 35 = .ok (.iaload, 1) := by decide +kernel
theorem dX9_shorten_36 : decode cX9_shorten 36 = .ok (.iload_n 3, 1) := by decide +kernel
theorem dX9_shorten_37 : decode cX9_shorten 37 = .ok (.invokestatic 30, 3) := by decide +kernel
theorem dX9_shorten_40 : decode cX9_shorten 40 = .ok (.iastore, 1) := by decide +kernel
theorem dX9_shorten_41 : decode cX9_shorten 41 = .ok (.return_, 1) := by decide +kernel
theorem dX9_joinWays_0 : decode cX9_joinWays 0 = .ok (.iconst 0, 1) := by decide +kernel
theorem dX9_joinWays_1 : decode cX9_joinWays 1 = .ok (.istore_n 1, 1) := by decide +kernel
theorem dX9_joinWays_2 : decode cX9_joinWays 2 = .ok (.iload_n 1, 1) := by decide +kernel
theorem dX9_joinWays_3 : decode cX9_joinWays 3 = .ok (.bipush 6, 2) := by decide +kernel
theorem dX9_joinWays_5 : decode cX9_joinWays 5 = .ok (.if_icmp .ge 29, 3) := by decide +kernel
end
section
theorem dX9_joinWays_8 : decode cX9_joinWays 8 = .ok (.iconst 0, 1) := by decide +kernel
theorem dX9_joinWays_9 : decode cX9_joinWays 9 = .ok (.istore_n 2, 1) := by decide +kernel
theorem dX9_joinWays_10 : decode cX9_joinWays 10 = .ok (.iload_n 2, 1) := by decide +kernel
theorem dX9_joinWays_11 : decode cX9_joinWays 11 = .ok (.bipush 6, 2) := by decide +kernel
theorem dX9_joinWays_13 : decode cX9_joinWays 13 = .ok (.if_icmp .ge 15, 3) := by decide +kernel
theorem dX9_joinWays_16 : decode cX9_joinWays 16 = .ok (.aload_n 0, 1) := by decide +kernel
theorem dX9_joinWays_17 : decode cX9_joinWays 17 = .ok (.iload_n 1, 1) := by decide +kernel
theorem dX9_joinWays_18 : decode cX9_joinWays 18 = .ok (.iload_n 2, 1) := by decide +kernel
theorem dX9_joinWays_19 : decode cX9_joinWays 19 = .ok (.invokevirtual 36, 3) := by decide +kernel
theorem dX9_joinWays_22 : decode cX9_joinWays 22 = .ok (.iinc 2 1, 3) := by decide +kernel
theorem dX9_joinWays_25 : decode cX9_joinWays 25 = .ok (.goto (-15), 3) := by decide +kernel
theorem dX9_joinWays_28 : decode cX9_joinWays 28 = .ok (.iinc 1 1, 3) := by decide +kernel
theorem dX9_joinWays_31 : decode cX9_joinWays 31 = .ok (.goto (-29), 3) := by decide +kernel
theorem dX9_joinWays_34 : decode cX9_joinWays 34 = .ok (.return_, 1) := by decide +kernel
theorem dX9_joinThrough_0 : decode cX9_joinThrough 0 = .ok (.aload_n 0, 1) := by decide +kernel
theorem dX9_joinThrough_1 : decode cX9_joinThrough 1 = .ok (.iload_n 2, 1) := by decide +kernel
theorem dX9_joinThrough_2 : decode cX9_joinThrough 2 = .ok (.iload_n 1, 1) := by decide +kernel
theorem dX9_joinThrough_3 : decode cX9_joinThrough 3 = .ok (.invokevirtual 40, 3) := by decide +kernel
theorem dX9_joinThrough_6 : decode cX9_joinThrough 6 = .ok (.istore_n 3, 1) := by decide +kernel
theorem dX9_joinThrough_7 : decode cX9_joinThrough 7 = .ok (.iload_n 3, 1) := by decide +kernel
theorem dX9_joinThrough_8 : decode cX9_joinThrough 8 = .ok (.ldc 19, 2) := by decide +kernel
theorem dX9_joinThrough_10 : decode cX9_joinThrough 10 = .ok (.if_icmp .ge 35, 3) := by decide +kernel
theorem dX9_joinThrough_13 : decode cX9_joinThrough 13 = .ok (.iconst 0, 1) := by decide +kernel
theorem dX9_joinThrough_14 : decode cX9_joinThrough 14 = .ok (.istore 4, 2) := by decide +kernel
theorem dX9_joinThrough_16 : decode cX9_joinThrough 16 = .ok (.iload 4, 2) := by decide +kernel
theorem dX9_joinThrough_18 : decode cX9_joinThrough 18 = .ok (.bipush 6, 2) := by decide +kernel
theorem dX9_joinThrough_20 : decode cX9_joinThrough 20 = .ok (.if_icmp .ge 25, 3) := by decide +kernel
theorem dX9_joinThrough_23 : decode cX9_joinThrough 23 = .ok (.aload_n 0, 1) := by decide +kernel
theorem dX9_joinThrough_24 : decode cX9_joinThrough 24 = .ok (.iload_n 2, 1) := by decide +kernel
theorem dX9_joinThrough_25 : decode cX9_joinThrough 25 = .ok (.iload 4, 2) := by decide +kernel
theorem dX9_joinThrough_27 : decode cX9_joinThrough 27 = .ok (.iload_n 3, 1) := by decide +kernel
theorem dX9_joinThrough_28 : decode cX9_joinThrough 28 = .ok (.aload_n 0, 1) := by decide +kernel
theorem dX9_joinThrough_29 : decode cX9_joinThrough 29 = .ok (.iload_n 1, 1) := by decide +kernel
theorem dX9_joinThrough_30 : decode cX9_joinThrough 30 = .ok (.iload 4, 2) := by decide +kernel
theorem dX9_joinThrough_32 : decode cX9_joinThrough 32 = .ok (.invokevirtual 40, 3) := by decide +kernel
theorem dX9_joinThrough_35 : decode cX9_joinThrough 35 = .ok (.iadd, 1) := by decide +kernel
theorem dX9_joinThrough_36 : decode cX9_joinThrough 36 = .ok (.invokevirtual 26, 3) := by decide +kernel
theorem dX9_joinThrough_39 : decode cX9_joinThrough 39 = .ok (.iinc 4 1, 3) := by decide +kernel
theorem dX9_joinThrough_42 : decode cX9_joinThrough 42 = .ok (.goto (-26), 3) := by decide +kernel
theorem dX9_joinThrough_45 : decode cX9_joinThrough 45 = .ok (.return_, 1) := by decide +kernel
theorem dX9_takeWithBond_0 : decode cX9_takeWithBond 0 = .ok (.iconst 0, 1) := by decide +kernel
theorem dX9_takeWithBond_1 : decode cX9_takeWithBond 1 = .ok (.istore 4, 2) := by decide +kernel
theorem dX9_takeWithBond_3 : decode cX9_takeWithBond 3 = .ok (.iload 4, 2) := by decide +kernel
theorem dX9_takeWithBond_5 : decode cX9_takeWithBond 5 = .ok (.bipush 6, 2) := by decide +kernel
theorem dX9_takeWithBond_7 : decode cX9_takeWithBond 7 = .ok (.if_icmp .ge 48, 3) := by decide +kernel
theorem dX9_takeWithBond_10 : decode cX9_takeWithBond 10 = .ok (.iconst 0, 1) := by decide +kernel
theorem dX9_takeWithBond_11 : decode cX9_takeWithBond 11 = .ok (.istore 5, 2) := by decide +kernel
theorem dX9_takeWithBond_13 : decode cX9_takeWithBond 13 = .ok (.iload 5, 2) := by decide +kernel
theorem dX9_takeWithBond_15 : decode cX9_takeWithBond 15 = .ok (.bipush 6, 2) := by decide +kernel
theorem dX9_takeWithBond_17 : decode cX9_takeWithBond 17 = .ok (.if_icmp .ge 32, 3) := by decide +kernel
theorem dX9_takeWithBond_20 : decode cX9_takeWithBond 20 = .ok (.aload_n 0, 1) := by decide +kernel
theorem dX9_takeWithBond_21 : decode cX9_takeWithBond 21 = .ok (.getfield 9, 3) := by decide +kernel
theorem dX9_takeWithBond_24 : decode cX9_takeWithBond 24 = .ok (.iload 4, 2) := by decide +kernel
theorem dX9_takeWithBond_26 : decode cX9_takeWithBond 26 = .ok (.bipush 6, 2) := by decide +kernel
theorem dX9_takeWithBond_28 : decode cX9_takeWithBond 28 = .ok (.imul, 1) := by decide +kernel
theorem dX9_takeWithBond_29 : decode cX9_takeWithBond 29 = .ok (.iload 5, 2) := by decide +kernel
theorem dX9_takeWithBond_31 : decode cX9_takeWithBond 31 = .ok (.iadd, 1) := by decide +kernel
theorem dX9_takeWithBond_32 : decode cX9_takeWithBond 32 = .ok (.aload_n 1, 1) := by decide +kernel
theorem dX9_takeWithBond_33 : decode cX9_takeWithBond 33 = .ok (.iload 4, 2) := by decide +kernel
theorem dX9_takeWithBond_35 : decode cX9_takeWithBond 35 = .ok (.iload 5, 2) := by decide +kernel
theorem dX9_takeWithBond_37 : decode cX9_takeWithBond 37 = .ok (.iload_n 2, 1) := by decide +kernel
theorem dX9_takeWithBond_38 : decode cX9_takeWithBond 38 = .ok (.iload_n 3, 1) := by decide +kernel
theorem dX9_takeWithBond_39 : decode cX9_takeWithBond 39 = .ok (.invokevirtual 43, 3) := by decide +kernel
theorem dX9_takeWithBond_42 : decode cX9_takeWithBond 42 = .ok (.iastore, 1) := by decide +kernel
theorem dX9_takeWithBond_43 : decode cX9_takeWithBond 43 = .ok (.iinc 5 1, 3) := by decide +kernel
theorem dX9_takeWithBond_46 : decode cX9_takeWithBond 46 = .ok (.goto (-33), 3) := by decide +kernel
theorem dX9_takeWithBond_49 : decode cX9_takeWithBond 49 = .ok (.iinc 4 1, 3) := by decide +kernel
theorem dX9_takeWithBond_52 : decode cX9_takeWithBond 52 = .ok (.goto (-49), 3) := by decide +kernel
theorem dX9_takeWithBond_55 : decode cX9_takeWithBond 55 = .ok (.return_, 1) := by decide +kernel
theorem dX9_areWithin_0 : decode cX9_areWithin 0 = .ok (.iconst 0, 1) := by decide +kernel
theorem dX9_areWithin_1 : decode cX9_areWithin 1 = .ok (.istore_n 2, 1) := by decide +kernel
theorem dX9_areWithin_2 : decode cX9_areWithin 2 = .ok (.iload_n 2, 1) := by decide +kernel
theorem dX9_areWithin_3 : decode cX9_areWithin 3 = .ok (.aload_n 0, 1) := by decide +kernel
theorem dX9_areWithin_4 : decode cX9_areWithin 4 = .ok (.getfield 9, 3) := by decide +kernel
theorem dX9_areWithin_7 : decode cX9_areWithin 7 = .ok (.arraylength, 1) := by decide +kernel
theorem dX9_areWithin_8 : decode cX9_areWithin 8 = .ok (.if_icmp .ge 21, 3) := by decide +kernel
theorem dX9_areWithin_11 : decode cX9_areWithin 11 = .ok (.aload_n 0, 1) := by decide +kernel
theorem dX9_areWithin_12 : decode cX9_areWithin 12 = .ok (.getfield 9, 3) := by decide +kernel
theorem dX9_areWithin_15 : decode cX9_areWithin 15 = .ok (.iload_n 2, 1) := by decide +kernel
theorem dX9_areWithin_16 : decode cX9_areWithin 16 = .ok (.iaload, 1) := by decide +kernel
theorem dX9_areWithin_17 : decode cX9_areWithin 17 = .ok (.iload_n 1, 1) := by decide +kernel
theorem dX9_areWithin_18 : decode cX9_areWithin 18 = .ok (.if_icmp .le 5, 3) := by decide +kernel
theorem dX9_areWithin_21 : decode cX9_areWithin 21 = .ok (.iconst 0, 1) := by decide +kernel
theorem dX9_areWithin_22 : decode cX9_areWithin 22 = .ok (.ireturn, 1) := by decide +kernel
theorem dX9_areWithin_23 : decode cX9_areWithin 23 = .ok (.iinc 2 1, 3) := by decide +kernel
theorem dX9_areWithin_26 : decode cX9_areWithin 26 = .ok (.goto (-24), 3) := by decide +kernel
theorem dX9_areWithin_29 : decode cX9_areWithin 29 = .ok (.iconst 1, 1) := by decide +kernel
theorem dX9_areWithin_30 : decode cX9_areWithin 30 = .ok (.ireturn, 1) := by decide +kernel
theorem dX9_areWithinWithBond_0 : decode cX9_areWithinWithBond 0 = .ok (.iconst 0, 1) := by decide +kernel
theorem dX9_areWithinWithBond_1 : decode cX9_areWithinWithBond 1 = .ok (.istore 4, 2) := by decide +kernel
theorem dX9_areWithinWithBond_3 : decode cX9_areWithinWithBond 3 = .ok (.iload 4, 2) := by decide +kernel
theorem dX9_areWithinWithBond_5 : decode cX9_areWithinWithBond 5 = .ok (.bipush 6, 2) := by decide +kernel
theorem dX9_areWithinWithBond_7 : decode cX9_areWithinWithBond 7 = .ok (.if_icmp .ge 41, 3) := by decide +kernel
theorem dX9_areWithinWithBond_10 : decode cX9_areWithinWithBond 10 = .ok (.iconst 0, 1) := by decide +kernel
theorem dX9_areWithinWithBond_11 : decode cX9_areWithinWithBond 11 = .ok (.istore 5, 2) := by decide +kernel
theorem dX9_areWithinWithBond_13 : decode cX9_areWithinWithBond 13 = .ok (.iload 5, 2) := by decide +kernel
theorem dX9_areWithinWithBond_15 : decode cX9_areWithinWithBond 15 = .ok (.bipush 6, 2) := by decide +kernel
theorem dX9_areWithinWithBond_17 : decode cX9_areWithinWithBond 17 = .ok (.if_icmp .ge 25, 3) := by decide +kernel
theorem dX9_areWithinWithBond_20 : decode cX9_areWithinWithBond 20 = .ok (.aload_n 0, 1) := by decide +kernel
theorem dX9_areWithinWithBond_21 : decode cX9_areWithinWithBond 21 = .ok (.iload 4, 2) := by decide +kernel
theorem dX9_areWithinWithBond_23 : decode cX9_areWithinWithBond 23 = .ok (.iload 5, 2) := by decide +kernel
theorem dX9_areWithinWithBond_25 : decode cX9_areWithinWithBond 25 = .ok (.iload_n 2, 1) := by decide +kernel
theorem dX9_areWithinWithBond_26 : decode cX9_areWithinWithBond 26 = .ok (.iload_n 3, 1) := by decide +kernel
theorem dX9_areWithinWithBond_27 : decode cX9_areWithinWithBond 27 = .ok (.invokevirtual 43, 3) := by decide +kernel
theorem dX9_areWithinWithBond_30 : decode cX9_areWithinWithBond 30 = .ok (.iload_n 1, 1) := by decide +kernel
theorem dX9_areWithinWithBond_31 : decode cX9_areWithinWithBond 31 = .ok (.if_icmp .le 5, 3) := by decide +kernel
theorem dX9_areWithinWithBond_34 : decode cX9_areWithinWithBond 34 = .ok (.iconst 0, 1) := by decide +kernel
theorem dX9_areWithinWithBond_35 : decode cX9_areWithinWithBond 35 = .ok (.ireturn, 1) := by decide +kernel
theorem dX9_areWithinWithBond_36 : decode cX9_areWithinWithBond 36 = .ok (.iinc 5 1, 3) := by decide +kernel
theorem dX9_areWithinWithBond_39 : decode cX9_areWithinWithBond 39 = .ok (.goto (-26), 3) := by decide +kernel
theorem dX9_areWithinWithBond_42 : decode cX9_areWithinWithBond 42 = .ok (.iinc 4 1, 3) := by decide +kernel
theorem dX9_areWithinWithBond_45 : decode cX9_areWithinWithBond 45 = .ok (.goto (-42), 3) := by decide +kernel
theorem dX9_areWithinWithBond_48 : decode cX9_areWithinWithBond 48 = .ok (.iconst 1, 1) := by decide +kernel
theorem dX9_areWithinWithBond_49 : decode cX9_areWithinWithBond 49 = .ok (.ireturn, 1) := by decide +kernel
theorem dX9_betweenWithBond_0 : decode cX9_betweenWithBond 0 = .ok (.aload_n 0, 1) := by decide +kernel
theorem dX9_betweenWithBond_1 : decode cX9_betweenWithBond 1 = .ok (.iload_n 1, 1) := by decide +kernel
theorem dX9_betweenWithBond_2 : decode cX9_betweenWithBond 2 = .ok (.iload_n 3, 1) := by decide +kernel
theorem dX9_betweenWithBond_3 : decode cX9_betweenWithBond 3 = .ok (.invokevirtual 40, 3) := by decide +kernel
theorem dX9_betweenWithBond_6 : decode cX9_betweenWithBond 6 = .ok (.iconst 1, 1) := by decide +kernel
theorem dX9_betweenWithBond_7 : decode cX9_betweenWithBond 7 = .ok (.iadd, 1) := by decide +kernel
theorem dX9_betweenWithBond_8 : decode cX9_betweenWithBond 8 = .ok (.aload_n 0, 1) := by decide +kernel
theorem dX9_betweenWithBond_9 : decode cX9_betweenWithBond 9 = .ok (.iload 4, 2) := by decide +kernel
theorem dX9_betweenWithBond_11 : decode cX9_betweenWithBond 11 = .ok (.iload_n 2, 1) := by decide +kernel
theorem dX9_betweenWithBond_12 : decode cX9_betweenWithBond 12 = .ok (.invokevirtual 40, 3) := by decide +kernel
theorem dX9_betweenWithBond_15 : decode cX9_betweenWithBond 15 = .ok (.iadd, 1) := by decide +kernel
theorem dX9_betweenWithBond_16 : decode cX9_betweenWithBond 16 = .ok (.istore 5, 2) := by decide +kernel
theorem dX9_betweenWithBond_18 : decode cX9_betweenWithBond 18 = .ok (.aload_n 0, 1) := by decide +kernel
theorem dX9_betweenWithBond_19 : decode cX9_betweenWithBond 19 = .ok (.iload_n 1, 1) := by decide +kernel
theorem dX9_betweenWithBond_20 : decode cX9_betweenWithBond 20 = .ok (.iload 4, 2) := by decide +kernel
theorem dX9_betweenWithBond_22 : decode cX9_betweenWithBond 22 = .ok (.invokevirtual 40, 3) := by decide +kernel
theorem dX9_betweenWithBond_25 : decode cX9_betweenWithBond 25 = .ok (.iconst 1, 1) := by decide +kernel
theorem dX9_betweenWithBond_26 : decode cX9_betweenWithBond 26 = .ok (.iadd, 1) := by decide +kernel
theorem dX9_betweenWithBond_27 : decode cX9_betweenWithBond 27 = .ok (.aload_n 0, 1) := by decide +kernel
theorem dX9_betweenWithBond_28 : decode cX9_betweenWithBond 28 = .ok (.iload_n 3, 1) := by decide +kernel
theorem dX9_betweenWithBond_29 : decode cX9_betweenWithBond 29 = .ok (.iload_n 2, 1) := by decide +kernel
theorem dX9_betweenWithBond_30 : decode cX9_betweenWithBond 30 = .ok (.invokevirtual 40, 3) := by decide +kernel
theorem dX9_betweenWithBond_33 : decode cX9_betweenWithBond 33 = .ok (.iadd, 1) := by decide +kernel
theorem dX9_betweenWithBond_34 : decode cX9_betweenWithBond 34 = .ok (.istore 6, 2) := by decide +kernel
theorem dX9_betweenWithBond_36 : decode cX9_betweenWithBond 36 = .ok (.aload_n 0, 1) := by decide +kernel
theorem dX9_betweenWithBond_37 : decode cX9_betweenWithBond 37 = .ok (.iload_n 1, 1) := by decide +kernel
theorem dX9_betweenWithBond_38 : decode cX9_betweenWithBond 38 = .ok (.iload_n 2, 1) := by decide +kernel
theorem dX9_betweenWithBond_39 : decode cX9_betweenWithBond 39 = .ok (.invokevirtual 40, 3) := by decide +kernel
theorem dX9_betweenWithBond_42 : decode cX9_betweenWithBond 42 = .ok (.iload 5, 2) := by decide +kernel
theorem dX9_betweenWithBond_44 : decode cX9_betweenWithBond 44 = .ok (.iload 6, 2) := by decide +kernel
theorem dX9_betweenWithBond_46 : decode cX9_betweenWithBond 46 = .ok (.invokestatic 30, 3) := by decide +kernel
theorem dX9_betweenWithBond_49 : decode cX9_betweenWithBond 49 = .ok (.invokestatic 30, 3) := by decide +kernel
theorem dX9_betweenWithBond_52 : decode cX9_betweenWithBond 52 = .ok (.ireturn, 1) := by decide +kernel
theorem dX10_init_0 : decode cX10_init 0 = .ok (.aload_n 0, 1) := by decide +kernel
theorem dX10_init_1 : decode cX10_init 1 = .ok (.invokespecial 1, 3) := by decide +kernel
theorem dX10_init_4 : decode cX10_init 4 = .ok (.aload_n 0, 1) := by decide +kernel
theorem dX10_init_5 : decode cX10_init 5 = .ok (.new 7, 3) := by decide +kernel
theorem dX10_init_8 : decode cX10_init 8 = .ok (.dup, 1) := by decide +kernel
theorem dX10_init_9 : decode cX10_init 9 = .ok (.invokespecial 9, 3) := by decide +kernel
theorem dX10_init_12 : decode cX10_init 12 = .ok (.putfield 10, 3) := by decide +kernel
theorem dX10_init_15 : decode cX10_init 15 = .ok (.aload_n 0, 1) := by decide +kernel
theorem dX10_init_16 : decode cX10_init 16 = .ok (.new 16, 3) := by decide +kernel
theorem dX10_init_19 : decode cX10_init 19 = .ok (.dup, 1) := by decide +kernel
theorem dX10_init_20 : decode cX10_init 20 = .ok (.invokespecial 18, 3) := by decide +kernel
theorem dX10_init_23 : decode cX10_init 23 = .ok (.putfield 19, 3) := by decide +kernel
theorem dX10_init_26 : decode cX10_init 26 = .ok (.aload_n 0, 1) := by decide +kernel
theorem dX10_init_27 : decode cX10_init 27 = .ok (.new 23, 3) := by decide +kernel
theorem dX10_init_30 : decode cX10_init 30 = .ok (.dup, 1) := by decide +kernel
theorem dX10_init_31 : decode cX10_init 31 = .ok (.invokespecial 25, 3) := by decide +kernel
theorem dX10_init_34 : decode cX10_init 34 = .ok (.putfield 26, 3) := by decide +kernel
theorem dX10_init_37 : decode cX10_init 37 = .ok (.aload_n 0, 1) := by decide +kernel
theorem dX10_init_38 : decode cX10_init 38 = .ok (.new 30, 3) := by decide +kernel
theorem dX10_init_41 : decode cX10_init 41 = .ok (.dup, 1) := by decide +kernel
theorem dX10_init_42 : decode cX10_init 42 = .ok (.invokespecial 32, 3) := by decide +kernel
theorem dX10_init_45 : decode cX10_init 45 = .ok (.putfield 33, 3) := by decide +kernel
theorem dX10_init_48 : decode cX10_init 48 = .ok (.aload_n 0, 1) := by decide +kernel
theorem dX10_init_49 : decode cX10_init 49 = .ok (.new 37, 3) := by decide +kernel
theorem dX10_init_52 : decode cX10_init 52 = .ok (.dup, 1) := by decide +kernel
theorem dX10_init_53 : decode cX10_init 53 = .ok (.invokespecial 39, 3) := by decide +kernel
theorem dX10_init_56 : decode cX10_init 56 = .ok (.putfield 40, 3) := by decide +kernel
theorem dX10_init_59 : decode cX10_init 59 = .ok (.aload_n 0, 1) := by decide +kernel
theorem dX10_init_60 : decode cX10_init 60 = .ok (.new 44, 3) := by decide +kernel
theorem dX10_init_63 : decode cX10_init 63 = .ok (.dup, 1) := by decide +kernel
theorem dX10_init_64 : decode cX10_init 64 = .ok (.invokespecial 46, 3) := by decide +kernel
theorem dX10_init_67 : decode cX10_init 67 = .ok (.putfield 47, 3) := by decide +kernel
theorem dX10_init_70 : decode cX10_init 70 = .ok (.aload_n 0, 1) := by decide +kernel
theorem dX10_init_71 : decode cX10_init 71 = .ok (.new 51, 3) := by decide +kernel
theorem dX10_init_74 : decode cX10_init 74 = .ok (.dup, 1) := by decide +kernel
theorem dX10_init_75 : decode cX10_init 75 = .ok (.invokespecial 53, 3) := by decide +kernel
theorem dX10_init_78 : decode cX10_init 78 = .ok (.putfield 54, 3) := by decide +kernel
theorem dX10_init_81 : decode cX10_init 81 = .ok (.aload_n 0, 1) := by decide +kernel
theorem dX10_init_82 : decode cX10_init 82 = .ok (.bipush 10, 2) := by decide +kernel
theorem dX10_init_84 : decode cX10_init 84 = .ok (.newarray .int, 2) := by decide +kernel
theorem dX10_init_86 : decode cX10_init 86 = .ok (.putfield 58, 3) := by decide +kernel
theorem dX10_init_89 : decode cX10_init 89 = .ok (.aload_n 0, 1) := by decide +kernel
theorem dX10_init_90 : decode cX10_init 90 = .ok (.new 62, 3) := by decide +kernel
theorem dX10_init_93 : decode cX10_init 93 = .ok (.dup, 1) := by decide +kernel
theorem dX10_init_94 : decode cX10_init 94 = .ok (.invokespecial 64, 3) := by decide +kernel
theorem dX10_init_97 : decode cX10_init 97 = .ok (.putfield 65, 3) := by decide +kernel
theorem dX10_init_100 : decode cX10_init 100 = .ok (.aload_n 0, 1) := by decide +kernel
theorem dX10_init_101 : decode cX10_init 101 = .ok (.new 62, 3) := by decide +kernel
theorem dX10_init_104 : decode cX10_init 104 = .ok (.dup, 1) := by decide +kernel
theorem dX10_init_105 : decode cX10_init 105 = .ok (.invokespecial 64, 3) := by decide +kernel
theorem dX10_init_108 : decode cX10_init 108 = .ok (.putfield 69, 3) := by decide +kernel
theorem dX10_init_111 : decode cX10_init 111 = .ok (.return_, 1) := by decide +kernel
theorem dX10_road_0 : decode cX10_road 0 = .ok (.iload_n 1, 1) := by decide +kernel
theorem dX10_road_1 : decode cX10_road 1 = .ok (.invokestatic 72, 3) := by decide +kernel
theorem dX10_road_4 : decode cX10_road 4 = .ok (.ifCond .eq 15, 3) := by decide +kernel
theorem dX10_road_7 : decode cX10_road 7 = .ok (.iload_n 2, 1) := by decide +kernel
theorem dX10_road_8 : decode cX10_road 8 = .ok (.invokestatic 72, 3) := by decide +kernel
theorem dX10_road_11 : decode cX10_road 11 = .ok (.ifCond .eq 8, 3) := by decide +kernel
theorem dX10_road_14 : decode cX10_road 14 = .ok (.iload_n 1, 1) := by decide +kernel
theorem dX10_road_15 : decode cX10_road 15 = .ok (.iload_n 2, 1) := by decide +kernel
theorem dX10_road_16 : decode cX10_road 16 = .ok (.if_icmp .ne 6, 3) := by decide +kernel
theorem dX10_road_19 : decode cX10_road 19 = .ok (.bipush (-101), 2) := by decide +kernel
theorem dX10_road_21 : decode cX10_road 21 = .ok (.ireturn, 1) := by decide +kernel
theorem dX10_road_22 : decode cX10_road 22 = .ok (.iload_n 3, 1) := by decide +kernel
theorem dX10_road_23 : decode cX10_road 23 = .ok (.iconst 0, 1) := by decide +kernel
theorem dX10_road_24 : decode cX10_road 24 = .ok (.bipush 99, 2) := by decide +kernel
theorem dX10_road_26 : decode cX10_road 26 = .ok (.invokestatic 76, 3) := by decide +kernel
theorem dX10_road_29 : decode cX10_road 29 = .ok (.ifCond .ne 6, 3) := by decide +kernel
theorem dX10_road_32 : decode cX10_road 32 = .ok (.bipush (-102), 2) := by decide +kernel
theorem dX10_road_34 : decode cX10_road 34 = .ok (.ireturn, 1) := by decide +kernel
theorem dX10_road_35 : decode cX10_road 35 = .ok (.aload_n 0, 1) := by decide +kernel
theorem dX10_road_36 : decode cX10_road 36 = .ok (.getfield 26, 3) := by decide +kernel
theorem dX10_road_39 : decode cX10_road 39 = .ok (.iload_n 1, 1) := by decide +kernel
theorem dX10_road_40 : decode cX10_road 40 = .ok (.iload_n 2, 1) := by decide +kernel
theorem dX10_road_41 : decode cX10_road 41 = .ok (.iload_n 3, 1) := by decide +kernel
theorem dX10_road_42 : decode cX10_road 42 = .ok (.invokevirtual 80, 3) := by decide +kernel
theorem dX10_road_45 : decode cX10_road 45 = .ok (.ireturn, 1) := by decide +kernel
theorem dX10_town_0 : decode cX10_town 0 = .ok (.iload_n 1, 1) := by decide +kernel
theorem dX10_town_1 : decode cX10_town 1 = .ok (.invokestatic 84, 3) := by decide +kernel
theorem dX10_town_4 : decode cX10_town 4 = .ok (.ifCond .eq 10, 3) := by decide +kernel
theorem dX10_town_7 : decode cX10_town 7 = .ok (.iload_n 2, 1) := by decide +kernel
theorem dX10_town_8 : decode cX10_town 8 = .ok (.invokestatic 72, 3) := by decide +kernel
theorem dX10_town_11 : decode cX10_town 11 = .ok (.ifCond .ne 6, 3) := by decide +kernel
theorem dX10_town_14 : decode cX10_town 14 = .ok (.bipush (-101), 2) := by decide +kernel
theorem dX10_town_16 : decode cX10_town 16 = .ok (.ireturn, 1) := by decide +kernel
theorem dX10_town_17 : decode cX10_town 17 = .ok (.aload_n 0, 1) := by decide +kernel
theorem dX10_town_18 : decode cX10_town 18 = .ok (.getfield 58, 3) := by decide +kernel
theorem dX10_town_21 : decode cX10_town 21 = .ok (.iload_n 1, 1) := by decide +kernel
theorem dX10_town_22 : decode cX10_town 22 = .ok (.iaload, 1) := by decide +kernel
theorem dX10_town_23 : decode cX10_town 23 = .ok (.istore_n 3, 1) := by decide +kernel
theorem dX10_town_24 : decode cX10_town 24 = .ok (.aload_n 0, 1) := by decide +kernel
theorem dX10_town_25 : decode cX10_town 25 = .ok (.getfield 58, 3) := by decide +kernel
theorem dX10_town_28 : decode cX10_town 28 = .ok (.iload_n 1, 1) := by decide +kernel
theorem dX10_town_29 : decode cX10_town 29 = .ok (.iload_n 2, 1) := by decide +kernel
theorem dX10_town_30 : decode cX10_town 30 = .ok (.iastore, 1) := by decide +kernel
theorem dX10_town_31 : decode cX10_town 31 = .ok (.iload_n 3, 1) := by decide +kernel
theorem dX10_town_32 : decode cX10_town 32 = .ok (.ireturn, 1) := by decide +kernel
theorem dX10_letters_0 : decode cX10_letters 0 = .ok (.aload_n 0, 1) := by decide +kernel
theorem dX10_letters_1 : decode cX10_letters 1 = .ok (.getfield 10, 3) := by decide +kernel
theorem dX10_letters_4 : decode cX10_letters 4 = .ok (.lload_n 1, 1) := by decide +kernel
theorem dX10_letters_5 : decode cX10_letters 5 = .ok (.invokevirtual 87, 3) := by decide +kernel
theorem dX10_letters_8 : decode cX10_letters 8 = .ok (.ireturn, 1) := by decide +kernel
theorem dX10_blank_0 : decode cX10_blank 0 = .ok (.aload_n 0, 1) := by decide +kernel
theorem dX10_blank_1 : decode cX10_blank 1 = .ok (.getfield 10, 3) := by decide +kernel
theorem dX10_blank_4 : decode cX10_blank 4 = .ok (.invokevirtual 91, 3) := by decide +kernel
theorem dX10_blank_7 : decode cX10_blank 7 = .ok (.istore_n 1, 1) := by decide +kernel
theorem dX10_blank_8 : decode cX10_blank 8 = .ok (.aload_n 0, 1) := by decide +kernel
theorem dX10_blank_9 : decode cX10_blank 9 = .ok (.getfield 10, 3) := by decide +kernel
theorem dX10_blank_12 : decode cX10_blank 12 = .ok (.invokevirtual 95, 3) := by decide +kernel
theorem dX10_blank_15 : decode cX10_blank 15 = .ok (.iload_n 1, 1) := by decide +kernel
theorem dX10_blank_16 : decode cX10_blank 16 = .ok (.ireturn, 1) := by decide +kernel
theorem dX10_fault_0 : decode cX10_fault 0 = .ok (.aload_n 0, 1) := by decide +kernel
theorem dX10_fault_1 : decode cX10_fault 1 = .ok (.getfield 69, 3) := by decide +kernel
theorem dX10_fault_4 : decode cX10_fault 4 = .ok (.aload_n 0, 1) := by decide +kernel
theorem dX10_fault_5 : decode cX10_fault 5 = .ok (.getfield 10, 3) := by decide +kernel
theorem dX10_fault_8 : decode cX10_fault 8 = .ok (.invokevirtual 98, 3) := by decide +kernel
theorem dX10_fault_11 : decode cX10_fault 11 = .ok (.ireturn, 1) := by decide +kernel
theorem dX10_births_0 : decode cX10_births 0 = .ok (.aload_n 0, 1) := by decide +kernel
theorem dX10_births_1 : decode cX10_births 1 = .ok (.getfield 69, 3) := by decide +kernel
theorem dX10_births_4 : decode cX10_births 4 = .ok (.aload_n 0, 1) := by decide +kernel
theorem dX10_births_5 : decode cX10_births 5 = .ok (.getfield 10, 3) := by decide +kernel
theorem dX10_births_8 : decode cX10_births 8 = .ok (.invokevirtual 98, 3) := by decide +kernel
theorem dX10_births_11 : decode cX10_births 11 = .ok (.aload_n 0, 1) := by decide +kernel
theorem dX10_births_12 : decode cX10_births 12 = .ok (.getfield 10, 3) := by decide +kernel
theorem dX10_births_15 : decode cX10_births 15 = .ok (.invokevirtual 91, 3) := by decide +kernel
theorem dX10_births_18 : decode cX10_births 18 = .ok (.if_icmp .lt 13, 3) := by decide +kernel
theorem dX10_births_21 : decode cX10_births 21 = .ok (.aload_n 0, 1) := by decide +kernel
theorem dX10_births_22 : decode cX10_births 22 = .ok (.getfield 69, 3) := by decide +kernel
theorem dX10_births_25 : decode cX10_births 25 = .ok (.invokevirtual 102, 3) := by decide +kernel
theorem dX10_births_28 : decode cX10_births 28 = .ok (.ifCond .ne 6, 3) := by decide +kernel
theorem dX10_births_31 : decode cX10_births 31 = .ok (.bipush (-103), 2) := by decide +kernel
theorem dX10_births_33 : decode cX10_births 33 = .ok (.ireturn, 1) := by decide +kernel
theorem dX10_births_34 : decode cX10_births 34 = .ok (.aload_n 0, 1) := by decide +kernel
theorem dX10_births_35 : decode cX10_births 35 = .ok (.getfield 65, 3) := by decide +kernel
theorem dX10_births_38 : decode cX10_births 38 = .ok (.astore_n 1, 1) := by decide +kernel
theorem dX10_births_39 : decode cX10_births 39 = .ok (.aload_n 0, 1) := by decide +kernel
theorem dX10_births_40 : decode cX10_births 40 = .ok (.aload_n 0, 1) := by decide +kernel
theorem dX10_births_41 : decode cX10_births 41 = .ok (.getfield 69, 3) := by decide +kernel
theorem dX10_births_44 : decode cX10_births 44 = .ok (.putfield 65, 3) := by decide +kernel
theorem dX10_births_47 : decode cX10_births 47 = .ok (.aload_n 0, 1) := by decide +kernel
theorem dX10_births_48 : decode cX10_births 48 = .ok (.aload_n 1, 1) := by decide +kernel
theorem dX10_births_49 : decode cX10_births 49 = .ok (.putfield 69, 3) := by decide +kernel
theorem dX10_births_52 : decode cX10_births 52 = .ok (.aload_n 0, 1) := by decide +kernel
theorem dX10_births_53 : decode cX10_births 53 = .ok (.getfield 10, 3) := by decide +kernel
theorem dX10_births_56 : decode cX10_births 56 = .ok (.invokevirtual 95, 3) := by decide +kernel
theorem dX10_births_59 : decode cX10_births 59 = .ok (.aload_n 0, 1) := by decide +kernel
theorem dX10_births_60 : decode cX10_births 60 = .ok (.getfield 19, 3) := by decide +kernel
theorem dX10_births_63 : decode cX10_births 63 = .ok (.invokevirtual 106, 3) := by decide +kernel
theorem dX10_births_66 : decode cX10_births 66 = .ok (.aload_n 0, 1) := by decide +kernel
theorem dX10_births_67 : decode cX10_births 67 = .ok (.getfield 54, 3) := by decide +kernel
theorem dX10_births_70 : decode cX10_births 70 = .ok (.invokevirtual 107, 3) := by decide +kernel
theorem dX10_births_73 : decode cX10_births 73 = .ok (.aload_n 0, 1) := by decide +kernel
theorem dX10_births_74 : decode cX10_births 74 = .ok (.dup, 1) := by decide +kernel
theorem dX10_births_75 : decode cX10_births 75 = .ok (.getfield 110, 3) := by decide +kernel
theorem dX10_births_78 : decode cX10_births 78 = .ok (.iconst 1, 1) := by decide +kernel
theorem dX10_births_79 : decode cX10_births 79 = .ok (.iadd, 1) := by decide +kernel
theorem dX10_births_80 : decode cX10_births 80 = .ok (.putfield 110, 3) := by decide +kernel
theorem dX10_births_83 : decode cX10_births 83 = .ok (.aload_n 0, 1) := by decide +kernel
theorem dX10_births_84 : decode cX10_births 84 = .ok (.getfield 65, 3) := by decide +kernel
theorem dX10_births_87 : decode cX10_births 87 = .ok (.invokevirtual 114, 3) := by decide +kernel
theorem dX10_births_90 : decode cX10_births 90 = .ok (.ireturn, 1) := by decide +kernel
theorem dX10_birth_0 : decode cX10_birth 0 = .ok (.aload_n 0, 1) := by decide +kernel
theorem dX10_birth_1 : decode cX10_birth 1 = .ok (.getfield 65, 3) := by decide +kernel
theorem dX10_birth_4 : decode cX10_birth 4 = .ok (.iload_n 1, 1) := by decide +kernel
theorem dX10_birth_5 : decode cX10_birth 5 = .ok (.invokevirtual 115, 3) := by decide +kernel
theorem dX10_birth_8 : decode cX10_birth 8 = .ok (.astore_n 3, 1) := by decide +kernel
theorem dX10_birth_9 : decode cX10_birth 9 = .ok (.aload_n 3, 1) := by decide +kernel
theorem dX10_birth_10 : decode cX10_birth 10 = .ok (.ifnonnull 6, 3) := by decide +kernel
theorem dX10_birth_13 : decode cX10_birth 13 = .ok (.bipush (-101), 2) := by decide +kernel
theorem dX10_birth_15 : decode cX10_birth 15 = .ok (.ireturn, 1) := by decide +kernel
theorem dX10_birth_16 : decode cX10_birth 16 = .ok (.iload_n 2, 1) := by decide +kernel
theorem dX10_birth_17 : decode cX10_birth 17 = .ok (.iconst 0, 1) := by decide +kernel
theorem dX10_birth_18 : decode cX10_birth 18 = .ok (.bipush 6, 2) := by decide +kernel
theorem dX10_birth_20 : decode cX10_birth 20 = .ok (.invokestatic 76, 3) := by decide +kernel
theorem dX10_birth_23 : decode cX10_birth 23 = .ok (.ifCond .ne 6, 3) := by decide +kernel
theorem dX10_birth_26 : decode cX10_birth 26 = .ok (.bipush (-102), 2) := by decide +kernel
theorem dX10_birth_28 : decode cX10_birth 28 = .ok (.ireturn, 1) := by decide +kernel
theorem dX10_birth_29 : decode cX10_birth 29 = .ok (.aload_n 3, 1) := by decide +kernel
theorem dX10_birth_30 : decode cX10_birth 30 = .ok (.iload_n 2, 1) := by decide +kernel
theorem dX10_birth_31 : decode cX10_birth 31 = .ok (.invokevirtual 121, 3) := by decide +kernel
theorem dX10_birth_34 : decode cX10_birth 34 = .ok (.ireturn, 1) := by decide +kernel
theorem dX10_as_0 : decode cX10_as 0 = .ok (.aload_n 0, 1) := by decide +kernel
theorem dX10_as_1 : decode cX10_as 1 = .ok (.getfield 65, 3) := by decide +kernel
theorem dX10_as_4 : decode cX10_as 4 = .ok (.iload_n 1, 1) := by decide +kernel
theorem dX10_as_5 : decode cX10_as 5 = .ok (.invokevirtual 115, 3) := by decide +kernel
theorem dX10_as_8 : decode cX10_as 8 = .ok (.astore_n 3, 1) := by decide +kernel
theorem dX10_as_9 : decode cX10_as 9 = .ok (.aload_n 3, 1) := by decide +kernel
theorem dX10_as_10 : decode cX10_as 10 = .ok (.ifnonnull 6, 3) := by decide +kernel
theorem dX10_as_13 : decode cX10_as 13 = .ok (.bipush (-101), 2) := by decide +kernel
theorem dX10_as_15 : decode cX10_as 15 = .ok (.ireturn, 1) := by decide +kernel
theorem dX10_as_16 : decode cX10_as 16 = .ok (.iload_n 2, 1) := by decide +kernel
theorem dX10_as_17 : decode cX10_as 17 = .ok (.iconst 0, 1) := by decide +kernel
theorem dX10_as_18 : decode cX10_as 18 = .ok (.iconst 3, 1) := by decide +kernel
theorem dX10_as_19 : decode cX10_as 19 = .ok (.invokestatic 76, 3) := by decide +kernel
theorem dX10_as_22 : decode cX10_as 22 = .ok (.ifCond .ne 6, 3) := by decide +kernel
theorem dX10_as_25 : decode cX10_as 25 = .ok (.bipush (-102), 2) := by decide +kernel
theorem dX10_as_27 : decode cX10_as 27 = .ok (.ireturn, 1) := by decide +kernel
theorem dX10_as_28 : decode cX10_as 28 = .ok (.aload_n 3, 1) := by decide +kernel
theorem dX10_as_29 : decode cX10_as 29 = .ok (.iload_n 2, 1) := by decide +kernel
theorem dX10_as_30 : decode cX10_as 30 = .ok (.invokevirtual 125, 3) := by decide +kernel
theorem dX10_as_33 : decode cX10_as 33 = .ok (.ifCond .eq 7, 3) := by decide +kernel
theorem dX10_as_36 : decode cX10_as 36 = .ok (.iload_n 1, 1) := by decide +kernel
theorem dX10_as_37 : decode cX10_as 37 = .ok (.goto 4, 3) := by decide +kernel
theorem dX10_as_40 : decode cX10_as 40 = .ok (.iconst (-1), 1) := by decide +kernel
theorem dX10_as_41 : decode cX10_as 41 = .ok (.ireturn, 1) := by decide +kernel
theorem dX10_about_0 : decode cX10_about 0 = .ok (.iload_n 1, 1) := by decide +kernel
theorem dX10_about_1 : decode cX10_about 1 = .ok (.invokestatic 84, 3) := by decide +kernel
theorem dX10_about_4 : decode cX10_about 4 = .ok (.ifCond .ne 6, 3) := by decide +kernel
theorem dX10_about_7 : decode cX10_about 7 = .ok (.bipush (-101), 2) := by decide +kernel
theorem dX10_about_9 : decode cX10_about 9 = .ok (.ireturn, 1) := by decide +kernel
theorem dX10_about_10 : decode cX10_about 10 = .ok (.iload_n 2, 1) := by decide +kernel
theorem dX10_about_11 : decode cX10_about 11 = .ok (.tableswitch 50 0 2 #[25, 32, 41], 25) := by decide +kernel
theorem dX10_about_36 : decode cX10_about 36 = .ok (.aload_n 0, 1) := by decide +kernel
theorem dX10_about_37 : decode cX10_about 37 = .ok (.getfield 58, 3) := by decide +kernel
theorem dX10_about_40 : decode cX10_about 40 = .ok (.iload_n 1, 1) := by decide +kernel
theorem dX10_about_41 : decode cX10_about 41 = .ok (.iaload, 1) := by decide +kernel
theorem dX10_about_42 : decode cX10_about 42 = .ok (.ireturn, 1) := by decide +kernel
theorem dX10_about_43 : decode cX10_about 43 = .ok (.aload_n 0, 1) := by decide +kernel
theorem dX10_about_44 : decode cX10_about 44 = .ok (.getfield 65, 3) := by decide +kernel
theorem dX10_about_47 : decode cX10_about 47 = .ok (.iload_n 1, 1) := by decide +kernel
theorem dX10_about_48 : decode cX10_about 48 = .ok (.invokevirtual 128, 3) := by decide +kernel
theorem dX10_about_51 : decode cX10_about 51 = .ok (.ireturn, 1) := by decide +kernel
theorem dX10_about_52 : decode cX10_about 52 = .ok (.aload_n 0, 1) := by decide +kernel
theorem dX10_about_53 : decode cX10_about 53 = .ok (.getfield 19, 3) := by decide +kernel
theorem dX10_about_56 : decode cX10_about 56 = .ok (.iload_n 1, 1) := by decide +kernel
theorem dX10_about_57 : decode cX10_about 57 = .ok (.invokevirtual 131, 3) := by decide +kernel
theorem dX10_about_60 : decode cX10_about 60 = .ok (.ireturn, 1) := by decide +kernel
theorem dX10_about_61 : decode cX10_about 61 = .ok (.bipush (-102), 2) := by decide +kernel
theorem dX10_about_63 : decode cX10_about 63 = .ok (.ireturn, 1) := by decide +kernel
theorem dX10_touch_0 : decode cX10_touch 0 = .ok (.iload_n 1, 1) := by decide +kernel
theorem dX10_touch_1 : decode cX10_touch 1 = .ok (.invokestatic 84, 3) := by decide +kernel
theorem dX10_touch_4 : decode cX10_touch 4 = .ok (.ifCond .ne 6, 3) := by decide +kernel
theorem dX10_touch_7 : decode cX10_touch 7 = .ok (.bipush (-101), 2) := by decide +kernel
theorem dX10_touch_9 : decode cX10_touch 9 = .ok (.ireturn, 1) := by decide +kernel
theorem dX10_touch_10 : decode cX10_touch 10 = .ok (.iload_n 2, 1) := by decide +kernel
theorem dX10_touch_11 : decode cX10_touch 11 = .ok (.iconst 0, 1) := by decide +kernel
theorem dX10_touch_12 : decode cX10_touch 12 = .ok (.sipush 999, 3) := by decide +kernel
theorem dX10_touch_15 : decode cX10_touch 15 = .ok (.invokestatic 76, 3) := by decide +kernel
theorem dX10_touch_18 : decode cX10_touch 18 = .ok (.ifCond .ne 6, 3) := by decide +kernel
theorem dX10_touch_21 : decode cX10_touch 21 = .ok (.bipush (-102), 2) := by decide +kernel
theorem dX10_touch_23 : decode cX10_touch 23 = .ok (.ireturn, 1) := by decide +kernel
theorem dX10_touch_24 : decode cX10_touch 24 = .ok (.aload_n 0, 1) := by decide +kernel
theorem dX10_touch_25 : decode cX10_touch 25 = .ok (.getfield 19, 3) := by decide +kernel
theorem dX10_touch_28 : decode cX10_touch 28 = .ok (.iload_n 1, 1) := by decide +kernel
theorem dX10_touch_29 : decode cX10_touch 29 = .ok (.iload_n 2, 1) := by decide +kernel
theorem dX10_touch_30 : decode cX10_touch 30 = .ok (.invokevirtual 134, 3) := by decide +kernel
theorem dX10_touch_33 : decode cX10_touch 33 = .ok (.ireturn, 1) := by decide +kernel
theorem dX10_forget_0 : decode cX10_forget 0 = .ok (.aload_n 0, 1) := by decide +kernel
theorem dX10_forget_1 : decode cX10_forget 1 = .ok (.getfield 19, 3) := by decide +kernel
theorem dX10_forget_4 : decode cX10_forget 4 = .ok (.invokevirtual 138, 3) := by decide +kernel
theorem dX10_forget_7 : decode cX10_forget 7 = .ok (.istore_n 1, 1) := by decide +kernel
theorem dX10_forget_8 : decode cX10_forget 8 = .ok (.aload_n 0, 1) := by decide +kernel
theorem dX10_forget_9 : decode cX10_forget 9 = .ok (.getfield 19, 3) := by decide +kernel
theorem dX10_forget_12 : decode cX10_forget 12 = .ok (.invokevirtual 106, 3) := by decide +kernel
theorem dX10_forget_15 : decode cX10_forget 15 = .ok (.iload_n 1, 1) := by decide +kernel
theorem dX10_forget_16 : decode cX10_forget 16 = .ok (.ireturn, 1) := by decide +kernel
theorem dX10_felt_0 : decode cX10_felt 0 = .ok (.iload_n 1, 1) := by decide +kernel
theorem dX10_felt_1 : decode cX10_felt 1 = .ok (.invokestatic 84, 3) := by decide +kernel
theorem dX10_felt_4 : decode cX10_felt 4 = .ok (.ifCond .ne 6, 3) := by decide +kernel
theorem dX10_felt_7 : decode cX10_felt 7 = .ok (.bipush (-101), 2) := by decide +kernel
theorem dX10_felt_9 : decode cX10_felt 9 = .ok (.ireturn, 1) := by decide +kernel
theorem dX10_felt_10 : decode cX10_felt 10 = .ok (.iload_n 2, 1) := by decide +kernel
theorem dX10_felt_11 : decode cX10_felt 11 = .ok (.iload_n 3, 1) := by decide +kernel
theorem dX10_felt_12 : decode cX10_felt 12 = .ok (.invokestatic 139, 3) := by decide +kernel
theorem dX10_felt_15 : decode cX10_felt 15 = .ok (.ifCond .ne 6, 3) := by decide +kernel
theorem dX10_felt_18 : decode cX10_felt 18 = .ok (.bipush (-102), 2) := by decide +kernel
theorem dX10_felt_20 : decode cX10_felt 20 = .ok (.ireturn, 1) := by decide +kernel
theorem dX10_felt_21 : decode cX10_felt 21 = .ok (.aload_n 0, 1) := by decide +kernel
theorem dX10_felt_22 : decode cX10_felt 22 = .ok (.getfield 19, 3) := by decide +kernel
theorem dX10_felt_25 : decode cX10_felt 25 = .ok (.aload_n 0, 1) := by decide +kernel
theorem dX10_felt_26 : decode cX10_felt 26 = .ok (.getfield 65, 3) := by decide +kernel
theorem dX10_felt_29 : decode cX10_felt 29 = .ok (.iload_n 1, 1) := by decide +kernel
theorem dX10_felt_30 : decode cX10_felt 30 = .ok (.iload_n 2, 1) := by decide +kernel
theorem dX10_felt_31 : decode cX10_felt 31 = .ok (.iload_n 3, 1) := by decide +kernel
theorem dX10_felt_32 : decode cX10_felt 32 = .ok (.invokevirtual 143, 3) := by decide +kernel
theorem dX10_felt_35 : decode cX10_felt 35 = .ok (.ireturn, 1) := by decide +kernel
theorem dX10_surely_0 : decode cX10_surely 0 = .ok (.iload_n 1, 1) := by decide +kernel
theorem dX10_surely_1 : decode cX10_surely 1 = .ok (.invokestatic 84, 3) := by decide +kernel
theorem dX10_surely_4 : decode cX10_surely 4 = .ok (.ifCond .ne 7, 3) := by decide +kernel
theorem dX10_surely_7 : decode cX10_surely 7 = .ok (.ldc2_w 147, 3) := by decide +kernel
theorem dX10_surely_10 : decode cX10_surely 10 = .ok (.lreturn, 1) := by decide +kernel
theorem dX10_surely_11 : decode cX10_surely 11 = .ok (.iload_n 2, 1) := by decide +kernel
theorem dX10_surely_12 : decode cX10_surely 12 = .ok (.iload_n 3, 1) := by decide +kernel
theorem dX10_surely_13 : decode cX10_surely 13 = .ok (.invokestatic 139, 3) := by decide +kernel
theorem dX10_surely_16 : decode cX10_surely 16 = .ok (.ifCond .eq 11, 3) := by decide +kernel
theorem dX10_surely_19 : decode cX10_surely 19 = .ok (.iload 4, 2) := by decide +kernel
theorem dX10_surely_21 : decode cX10_surely 21 = .ok (.invokestatic 149, 3) := by decide +kernel
theorem dX10_surely_24 : decode cX10_surely 24 = .ok (.ifCond .ne 7, 3) := by decide +kernel
theorem dX10_surely_27 : decode cX10_surely 27 = .ok (.ldc2_w 152, 3) := by decide +kernel
theorem dX10_surely_30 : decode cX10_surely 30 = .ok (.lreturn, 1) := by decide +kernel
theorem dX10_surely_31 : decode cX10_surely 31 = .ok (.aload_n 0, 1) := by decide +kernel
theorem dX10_surely_32 : decode cX10_surely 32 = .ok (.getfield 19, 3) := by decide +kernel
theorem dX10_surely_35 : decode cX10_surely 35 = .ok (.aload_n 0, 1) := by decide +kernel
theorem dX10_surely_36 : decode cX10_surely 36 = .ok (.getfield 65, 3) := by decide +kernel
theorem dX10_surely_39 : decode cX10_surely 39 = .ok (.iload_n 1, 1) := by decide +kernel
theorem dX10_surely_40 : decode cX10_surely 40 = .ok (.iload_n 2, 1) := by decide +kernel
theorem dX10_surely_41 : decode cX10_surely 41 = .ok (.iload_n 3, 1) := by decide +kernel
theorem dX10_surely_42 : decode cX10_surely 42 = .ok (.invokevirtual 143, 3) := by decide +kernel
theorem dX10_surely_45 : decode cX10_surely 45 = .ok (.istore 5, 2) := by decide +kernel
theorem dX10_surely_47 : decode cX10_surely 47 = .ok (.ldc2_w 154, 3) := by decide +kernel
theorem dX10_surely_50 : decode cX10_surely 50 = .ok (.iload 5, 2) := by decide +kernel
theorem dX10_surely_52 : decode cX10_surely 52 = .ok (.invokestatic 156, 3) := by decide +kernel
theorem dX10_surely_55 : decode cX10_surely 55 = .ok (.lstore 6, 2) := by decide +kernel
theorem dX10_surely_57 : decode cX10_surely 57 = .ok (.bipush 10, 2) := by decide +kernel
theorem dX10_surely_59 : decode cX10_surely 59 = .ok (.aload_n 0, 1) := by decide +kernel
theorem dX10_surely_60 : decode cX10_surely 60 = .ok (.getfield 65, 3) := by decide +kernel
theorem dX10_surely_63 : decode cX10_surely 63 = .ok (.iload_n 1, 1) := by decide +kernel
theorem dX10_surely_64 : decode cX10_surely 64 = .ok (.invokevirtual 160, 3) := by decide +kernel
theorem dX10_surely_67 : decode cX10_surely 67 = .ok (.isub, 1) := by decide +kernel
theorem dX10_surely_68 : decode cX10_surely 68 = .ok (.i2l, 1) := by decide +kernel
theorem dX10_surely_69 : decode cX10_surely 69 = .ok (.iload 5, 2) := by decide +kernel
theorem dX10_surely_71 : decode cX10_surely 71 = .ok (.invokestatic 156, 3) := by decide +kernel
theorem dX10_surely_74 : decode cX10_surely 74 = .ok (.lstore 8, 2) := by decide +kernel
theorem dX10_surely_76 : decode cX10_surely 76 = .ok (.lload 6, 2) := by decide +kernel
theorem dX10_surely_78 : decode cX10_surely 78 = .ok (.lload 8, 2) := by decide +kernel
theorem dX10_surely_80 : decode cX10_surely 80 = .ok (.lsub, 1) := by decide +kernel
theorem dX10_surely_81 : decode cX10_surely 81 = .ok (.lload 6, 2) := by decide +kernel
theorem dX10_surely_83 : decode cX10_surely 83 = .ok (.iload 4, 2) := by decide +kernel
theorem dX10_surely_85 : decode cX10_surely 85 = .ok (.invokestatic 163, 3) := by decide +kernel
theorem dX10_surely_88 : decode cX10_surely 88 = .ok (.lreturn, 1) := by decide +kernel
theorem dX10_over_0 : decode cX10_over 0 = .ok (.aload_n 0, 1) := by decide +kernel
theorem dX10_over_1 : decode cX10_over 1 = .ok (.getfield 19, 3) := by decide +kernel
theorem dX10_over_4 : decode cX10_over 4 = .ok (.aload_n 0, 1) := by decide +kernel
theorem dX10_over_5 : decode cX10_over 5 = .ok (.getfield 65, 3) := by decide +kernel
theorem dX10_over_8 : decode cX10_over 8 = .ok (.invokevirtual 167, 3) := by decide +kernel
theorem dX10_over_11 : decode cX10_over 11 = .ok (.ireturn, 1) := by decide +kernel
theorem dX10_soonest_0 : decode cX10_soonest 0 = .ok (.iload_n 1, 1) := by decide +kernel
theorem dX10_soonest_1 : decode cX10_soonest 1 = .ok (.invokestatic 72, 3) := by decide +kernel
theorem dX10_soonest_4 : decode cX10_soonest 4 = .ok (.ifCond .eq 10, 3) := by decide +kernel
theorem dX10_soonest_7 : decode cX10_soonest 7 = .ok (.iload_n 2, 1) := by decide +kernel
theorem dX10_soonest_8 : decode cX10_soonest 8 = .ok (.invokestatic 72, 3) := by decide +kernel
theorem dX10_soonest_11 : decode cX10_soonest 11 = .ok (.ifCond .ne 6, 3) := by decide +kernel
theorem dX10_soonest_14 : decode cX10_soonest 14 = .ok (.bipush (-101), 2) := by decide +kernel
theorem dX10_soonest_16 : decode cX10_soonest 16 = .ok (.ireturn, 1) := by decide +kernel
theorem dX10_soonest_17 : decode cX10_soonest 17 = .ok (.aload_n 0, 1) := by decide +kernel
theorem dX10_soonest_18 : decode cX10_soonest 18 = .ok (.getfield 26, 3) := by decide +kernel
theorem dX10_soonest_21 : decode cX10_soonest 21 = .ok (.aload_n 0, 1) := by decide +kernel
theorem dX10_soonest_22 : decode cX10_soonest 22 = .ok (.getfield 65, 3) := by decide +kernel
theorem dX10_soonest_25 : decode cX10_soonest 25 = .ok (.aload_n 0, 1) := by decide +kernel
theorem dX10_soonest_26 : decode cX10_soonest 26 = .ok (.getfield 58, 3) := by decide +kernel
theorem dX10_soonest_29 : decode cX10_soonest 29 = .ok (.iconst 0, 1) := by decide +kernel
theorem dX10_soonest_30 : decode cX10_soonest 30 = .ok (.invokevirtual 171, 3) := by decide +kernel
theorem dX10_soonest_33 : decode cX10_soonest 33 = .ok (.aload_n 0, 1) := by decide +kernel
theorem dX10_soonest_34 : decode cX10_soonest 34 = .ok (.getfield 26, 3) := by decide +kernel
theorem dX10_soonest_37 : decode cX10_soonest 37 = .ok (.iload_n 1, 1) := by decide +kernel
theorem dX10_soonest_38 : decode cX10_soonest 38 = .ok (.iload_n 2, 1) := by decide +kernel
theorem dX10_soonest_39 : decode cX10_soonest 39 = .ok (.invokevirtual 175, 3) := by decide +kernel
theorem dX10_soonest_42 : decode cX10_soonest 42 = .ok (.ireturn, 1) := by decide +kernel
theorem dX10_unseen_0 : decode cX10_unseen 0 = .ok (.iload_n 1, 1) := by decide +kernel
theorem dX10_unseen_1 : decode cX10_unseen 1 = .ok (.invokestatic 72, 3) := by decide +kernel
theorem dX10_unseen_4 : decode cX10_unseen 4 = .ok (.ifCond .eq 10, 3) := by decide +kernel
theorem dX10_unseen_7 : decode cX10_unseen 7 = .ok (.iload_n 2, 1) := by decide +kernel
theorem dX10_unseen_8 : decode cX10_unseen 8 = .ok (.invokestatic 72, 3) := by decide +kernel
theorem dX10_unseen_11 : decode cX10_unseen 11 = .ok (.ifCond .ne 6, 3) := by decide +kernel
theorem dX10_unseen_14 : decode cX10_unseen 14 = .ok (.bipush (-101), 2) := by decide +kernel
theorem dX10_unseen_16 : decode cX10_unseen 16 = .ok (.ireturn, 1) := by decide +kernel
theorem dX10_unseen_17 : decode cX10_unseen 17 = .ok (.iload_n 3, 1) := by decide +kernel
theorem dX10_unseen_18 : decode cX10_unseen 18 = .ok (.bipush 10, 2) := by decide +kernel
theorem dX10_unseen_20 : decode cX10_unseen 20 = .ok (.invokestatic 178, 3) := by decide +kernel
theorem dX10_unseen_23 : decode cX10_unseen 23 = .ok (.ifCond .ne 6, 3) := by decide +kernel
theorem dX10_unseen_26 : decode cX10_unseen 26 = .ok (.bipush (-102), 2) := by decide +kernel
theorem dX10_unseen_28 : decode cX10_unseen 28 = .ok (.ireturn, 1) := by decide +kernel
theorem dX10_unseen_29 : decode cX10_unseen 29 = .ok (.aload_n 0, 1) := by decide +kernel
theorem dX10_unseen_30 : decode cX10_unseen 30 = .ok (.getfield 26, 3) := by decide +kernel
theorem dX10_unseen_33 : decode cX10_unseen 33 = .ok (.aload_n 0, 1) := by decide +kernel
theorem dX10_unseen_34 : decode cX10_unseen 34 = .ok (.getfield 65, 3) := by decide +kernel
theorem dX10_unseen_37 : decode cX10_unseen 37 = .ok (.aload_n 0, 1) := by decide +kernel
theorem dX10_unseen_38 : decode cX10_unseen 38 = .ok (.getfield 58, 3) := by decide +kernel
theorem dX10_unseen_41 : decode cX10_unseen 41 = .ok (.iload_n 3, 1) := by decide +kernel
theorem dX10_unseen_42 : decode cX10_unseen 42 = .ok (.invokevirtual 171, 3) := by decide +kernel
theorem dX10_unseen_45 : decode cX10_unseen 45 = .ok (.aload_n 0, 1) := by decide +kernel
theorem dX10_unseen_46 : decode cX10_unseen 46 = .ok (.getfield 26, 3) := by decide +kernel
theorem dX10_unseen_49 : decode cX10_unseen 49 = .ok (.iload_n 1, 1) := by decide +kernel
theorem dX10_unseen_50 : decode cX10_unseen 50 = .ok (.iload_n 2, 1) := by decide +kernel
theorem dX10_unseen_51 : decode cX10_unseen 51 = .ok (.invokevirtual 175, 3) := by decide +kernel
theorem dX10_unseen_54 : decode cX10_unseen 54 = .ok (.ireturn, 1) := by decide +kernel
theorem dX10_kept_0 : decode cX10_kept 0 = .ok (.iload_n 1, 1) := by decide +kernel
theorem dX10_kept_1 : decode cX10_kept 1 = .ok (.iconst 0, 1) := by decide +kernel
theorem dX10_kept_2 : decode cX10_kept 2 = .ok (.sipush 999, 3) := by decide +kernel
theorem dX10_kept_5 : decode cX10_kept 5 = .ok (.invokestatic 76, 3) := by decide +kernel
theorem dX10_kept_8 : decode cX10_kept 8 = .ok (.ifCond .eq 12, 3) := by decide +kernel
theorem dX10_kept_11 : decode cX10_kept 11 = .ok (.iload_n 2, 1) := by decide +kernel
theorem dX10_kept_12 : decode cX10_kept 12 = .ok (.iconst 0, 1) := by decide +kernel
theorem dX10_kept_13 : decode cX10_kept 13 = .ok (.iconst 4, 1) := by decide +kernel
theorem dX10_kept_14 : decode cX10_kept 14 = .ok (.invokestatic 76, 3) := by decide +kernel
theorem dX10_kept_17 : decode cX10_kept 17 = .ok (.ifCond .ne 6, 3) := by decide +kernel
theorem dX10_kept_20 : decode cX10_kept 20 = .ok (.bipush (-102), 2) := by decide +kernel
theorem dX10_kept_22 : decode cX10_kept 22 = .ok (.ireturn, 1) := by decide +kernel
theorem dX10_kept_23 : decode cX10_kept 23 = .ok (.aload_n 0, 1) := by decide +kernel
theorem dX10_kept_24 : decode cX10_kept 24 = .ok (.getfield 181, 3) := by decide +kernel
theorem dX10_kept_27 : decode cX10_kept 27 = .ok (.bipush 20, 2) := by decide +kernel
theorem dX10_kept_29 : decode cX10_kept 29 = .ok (.if_icmp .lt 6, 3) := by decide +kernel
theorem dX10_kept_32 : decode cX10_kept 32 = .ok (.bipush (-103), 2) := by decide +kernel
theorem dX10_kept_34 : decode cX10_kept 34 = .ok (.ireturn, 1) := by decide +kernel
theorem dX10_kept_35 : decode cX10_kept 35 = .ok (.aload_n 0, 1) := by decide +kernel
theorem dX10_kept_36 : decode cX10_kept 36 = .ok (.dup, 1) := by decide +kernel
theorem dX10_kept_37 : decode cX10_kept 37 = .ok (.getfield 181, 3) := by decide +kernel
theorem dX10_kept_40 : decode cX10_kept 40 = .ok (.iconst 1, 1) := by decide +kernel
theorem dX10_kept_41 : decode cX10_kept 41 = .ok (.iadd, 1) := by decide +kernel
theorem dX10_kept_42 : decode cX10_kept 42 = .ok (.putfield 181, 3) := by decide +kernel
theorem dX10_kept_45 : decode cX10_kept 45 = .ok (.aload_n 0, 1) := by decide +kernel
theorem dX10_kept_46 : decode cX10_kept 46 = .ok (.getfield 26, 3) := by decide +kernel
theorem dX10_kept_49 : decode cX10_kept 49 = .ok (.aload_n 0, 1) := by decide +kernel
theorem dX10_kept_50 : decode cX10_kept 50 = .ok (.getfield 65, 3) := by decide +kernel
theorem dX10_kept_53 : decode cX10_kept 53 = .ok (.aload_n 0, 1) := by decide +kernel
theorem dX10_kept_54 : decode cX10_kept 54 = .ok (.getfield 58, 3) := by decide +kernel
theorem dX10_kept_57 : decode cX10_kept 57 = .ok (.iconst 0, 1) := by decide +kernel
theorem dX10_kept_58 : decode cX10_kept 58 = .ok (.invokevirtual 171, 3) := by decide +kernel
theorem dX10_kept_61 : decode cX10_kept 61 = .ok (.aload_n 0, 1) := by decide +kernel
theorem dX10_kept_62 : decode cX10_kept 62 = .ok (.getfield 26, 3) := by decide +kernel
theorem dX10_kept_65 : decode cX10_kept 65 = .ok (.iload_n 1, 1) := by decide +kernel
theorem dX10_kept_66 : decode cX10_kept 66 = .ok (.invokevirtual 184, 3) := by decide +kernel
theorem dX10_kept_69 : decode cX10_kept 69 = .ok (.istore_n 3, 1) := by decide +kernel
theorem dX10_kept_70 : decode cX10_kept 70 = .ok (.iload_n 2, 1) := by decide +kernel
theorem dX10_kept_71 : decode cX10_kept 71 = .ok (.ifCond .ne 7, 3) := by decide +kernel
theorem dX10_kept_74 : decode cX10_kept 74 = .ok (.iload_n 3, 1) := by decide +kernel
theorem dX10_kept_75 : decode cX10_kept 75 = .ok (.goto 13, 3) := by decide +kernel
theorem dX10_kept_78 : decode cX10_kept 78 = .ok (.aload_n 0, 1) := by decide +kernel
theorem dX10_kept_79 : decode cX10_kept 79 = .ok (.getfield 26, 3) := by decide +kernel
theorem dX10_kept_82 : decode cX10_kept 82 = .ok (.iload_n 2, 1) := by decide +kernel
theorem dX10_kept_83 : decode cX10_kept 83 = .ok (.iconst 1, 1) := by decide +kernel
theorem dX10_kept_84 : decode cX10_kept 84 = .ok (.isub, 1) := by decide +kernel
theorem dX10_kept_85 : decode cX10_kept 85 = .ok (.invokevirtual 187, 3) := by decide +kernel
theorem dX10_kept_88 : decode cX10_kept 88 = .ok (.ireturn, 1) := by decide +kernel
theorem dX10_words_0 : decode cX10_words 0 = .ok (.iload_n 1, 1) := by decide +kernel
theorem dX10_words_1 : decode cX10_words 1 = .ok (.iconst 1, 1) := by decide +kernel
theorem dX10_words_2 : decode cX10_words 2 = .ok (.bipush 8, 2) := by decide +kernel
theorem dX10_words_4 : decode cX10_words 4 = .ok (.invokestatic 76, 3) := by decide +kernel
theorem dX10_words_7 : decode cX10_words 7 = .ok (.ifCond .eq 11, 3) := by decide +kernel
theorem dX10_words_10 : decode cX10_words 10 = .ok (.iload_n 2, 1) := by decide +kernel
theorem dX10_words_11 : decode cX10_words 11 = .ok (.iload_n 3, 1) := by decide +kernel
theorem dX10_words_12 : decode cX10_words 12 = .ok (.invokestatic 190, 3) := by decide +kernel
theorem dX10_words_15 : decode cX10_words 15 = .ok (.ifCond .ne 6, 3) := by decide +kernel
theorem dX10_words_18 : decode cX10_words 18 = .ok (.bipush (-102), 2) := by decide +kernel
theorem dX10_words_20 : decode cX10_words 20 = .ok (.ireturn, 1) := by decide +kernel
theorem dX10_words_21 : decode cX10_words 21 = .ok (.iload_n 1, 1) := by decide +kernel
theorem dX10_words_22 : decode cX10_words 22 = .ok (.iload_n 2, 1) := by decide +kernel
theorem dX10_words_23 : decode cX10_words 23 = .ok (.iload_n 3, 1) := by decide +kernel
theorem dX10_words_24 : decode cX10_words 24 = .ok (.invokestatic 193, 3) := by decide +kernel
theorem dX10_words_27 : decode cX10_words 27 = .ok (.ireturn, 1) := by decide +kernel
theorem dX10_least_0 : decode cX10_least 0 = .ok (.iload_n 1, 1) := by decide +kernel
theorem dX10_least_1 : decode cX10_least 1 = .ok (.iconst 1, 1) := by decide +kernel
theorem dX10_least_2 : decode cX10_least 2 = .ok (.ldc 196, 2) := by decide +kernel
theorem dX10_least_4 : decode cX10_least 4 = .ok (.invokestatic 76, 3) := by decide +kernel
theorem dX10_least_7 : decode cX10_least 7 = .ok (.ifCond .eq 11, 3) := by decide +kernel
theorem dX10_least_10 : decode cX10_least 10 = .ok (.iload_n 2, 1) := by decide +kernel
theorem dX10_least_11 : decode cX10_least 11 = .ok (.iload_n 3, 1) := by decide +kernel
theorem dX10_least_12 : decode cX10_least 12 = .ok (.invokestatic 190, 3) := by decide +kernel
theorem dX10_least_15 : decode cX10_least 15 = .ok (.ifCond .ne 6, 3) := by decide +kernel
theorem dX10_least_18 : decode cX10_least 18 = .ok (.bipush (-102), 2) := by decide +kernel
theorem dX10_least_20 : decode cX10_least 20 = .ok (.ireturn, 1) := by decide +kernel
theorem dX10_least_21 : decode cX10_least 21 = .ok (.iconst 1, 1) := by decide +kernel
theorem dX10_least_22 : decode cX10_least 22 = .ok (.istore 4, 2) := by decide +kernel
theorem dX10_least_24 : decode cX10_least 24 = .ok (.iload 4, 2) := by decide +kernel
theorem dX10_least_26 : decode cX10_least 26 = .ok (.bipush 8, 2) := by decide +kernel
theorem dX10_least_28 : decode cX10_least 28 = .ok (.if_icmp .gt 23, 3) := by decide +kernel
theorem dX10_least_31 : decode cX10_least 31 = .ok (.iload 4, 2) := by decide +kernel
theorem dX10_least_33 : decode cX10_least 33 = .ok (.iload_n 2, 1) := by decide +kernel
theorem dX10_least_34 : decode cX10_least 34 = .ok (.iload_n 3, 1) := by decide +kernel
theorem dX10_least_35 : decode cX10_least 35 = .ok (.invokestatic 193, 3) := by decide +kernel
theorem dX10_least_38 : decode cX10_least 38 = .ok (.iload_n 1, 1) := by decide +kernel
theorem dX10_least_39 : decode cX10_least 39 = .ok (.if_icmp .lt 6, 3) := by decide +kernel
theorem dX10_least_42 : decode cX10_least 42 = .ok (.iload 4, 2) := by decide +kernel
theorem dX10_least_44 : decode cX10_least 44 = .ok (.ireturn, 1) := by decide +kernel
theorem dX10_least_45 : decode cX10_least 45 = .ok (.iinc 4 1, 3) := by decide +kernel
theorem dX10_least_48 : decode cX10_least 48 = .ok (.goto (-24), 3) := by decide +kernel
theorem dX10_least_51 : decode cX10_least 51 = .ok (.iconst (-1), 1) := by decide +kernel
theorem dX10_least_52 : decode cX10_least 52 = .ok (.ireturn, 1) := by decide +kernel
theorem dX10_missed_0 : decode cX10_missed 0 = .ok (.iload_n 1, 1) := by decide +kernel
theorem dX10_missed_1 : decode cX10_missed 1 = .ok (.iconst 1, 1) := by decide +kernel
theorem dX10_missed_2 : decode cX10_missed 2 = .ok (.iconst 4, 1) := by decide +kernel
theorem dX10_missed_3 : decode cX10_missed 3 = .ok (.invokestatic 76, 3) := by decide +kernel
theorem dX10_missed_6 : decode cX10_missed 6 = .ok (.ifCond .eq 21, 3) := by decide +kernel
theorem dX10_missed_9 : decode cX10_missed 9 = .ok (.iload_n 2, 1) := by decide +kernel
theorem dX10_missed_10 : decode cX10_missed 10 = .ok (.iconst 0, 1) := by decide +kernel
theorem dX10_missed_11 : decode cX10_missed 11 = .ok (.iconst 4, 1) := by decide +kernel
theorem dX10_missed_12 : decode cX10_missed 12 = .ok (.invokestatic 76, 3) := by decide +kernel
theorem dX10_missed_15 : decode cX10_missed 15 = .ok (.ifCond .eq 12, 3) := by decide +kernel
theorem dX10_missed_18 : decode cX10_missed 18 = .ok (.iload_n 3, 1) := by decide +kernel
theorem dX10_missed_19 : decode cX10_missed 19 = .ok (.iconst 0, 1) := by decide +kernel
theorem dX10_missed_20 : decode cX10_missed 20 = .ok (.iconst 1, 1) := by decide +kernel
theorem dX10_missed_21 : decode cX10_missed 21 = .ok (.invokestatic 76, 3) := by decide +kernel
theorem dX10_missed_24 : decode cX10_missed 24 = .ok (.ifCond .ne 6, 3) := by decide +kernel
theorem dX10_missed_27 : decode cX10_missed 27 = .ok (.bipush (-102), 2) := by decide +kernel
theorem dX10_missed_29 : decode cX10_missed 29 = .ok (.ireturn, 1) := by decide +kernel
theorem dX10_missed_30 : decode cX10_missed 30 = .ok (.aload_n 0, 1) := by decide +kernel
theorem dX10_missed_31 : decode cX10_missed 31 = .ok (.getfield 47, 3) := by decide +kernel
theorem dX10_missed_34 : decode cX10_missed 34 = .ok (.iload_n 1, 1) := by decide +kernel
theorem dX10_missed_35 : decode cX10_missed 35 = .ok (.iload_n 2, 1) := by decide +kernel
theorem dX10_missed_36 : decode cX10_missed 36 = .ok (.invokevirtual 197, 3) := by decide +kernel
theorem dX10_missed_39 : decode cX10_missed 39 = .ok (.iload_n 3, 1) := by decide +kernel
theorem dX10_missed_40 : decode cX10_missed 40 = .ok (.ifCond .ne 13, 3) := by decide +kernel
theorem dX10_missed_43 : decode cX10_missed 43 = .ok (.aload_n 0, 1) := by decide +kernel
theorem dX10_missed_44 : decode cX10_missed 44 = .ok (.getfield 47, 3) := by decide +kernel
theorem dX10_missed_47 : decode cX10_missed 47 = .ok (.invokevirtual 201, 3) := by decide +kernel
theorem dX10_missed_50 : decode cX10_missed 50 = .ok (.goto 10, 3) := by decide +kernel
theorem dX10_missed_53 : decode cX10_missed 53 = .ok (.aload_n 0, 1) := by decide +kernel
theorem dX10_missed_54 : decode cX10_missed 54 = .ok (.getfield 47, 3) := by decide +kernel
theorem dX10_missed_57 : decode cX10_missed 57 = .ok (.invokevirtual 204, 3) := by decide +kernel
theorem dX10_missed_60 : decode cX10_missed 60 = .ok (.ireturn, 1) := by decide +kernel
theorem dX10_book_0 : decode cX10_book 0 = .ok (.iload_n 1, 1) := by decide +kernel
theorem dX10_book_1 : decode cX10_book 1 = .ok (.bipush 8, 2) := by decide +kernel
theorem dX10_book_3 : decode cX10_book 3 = .ok (.invokestatic 178, 3) := by decide +kernel
theorem dX10_book_6 : decode cX10_book 6 = .ok (.ifCond .ne 6, 3) := by decide +kernel
theorem dX10_book_9 : decode cX10_book 9 = .ok (.bipush (-102), 2) := by decide +kernel
theorem dX10_book_11 : decode cX10_book 11 = .ok (.ireturn, 1) := by decide +kernel
theorem dX10_book_12 : decode cX10_book 12 = .ok (.aload_n 0, 1) := by decide +kernel
theorem dX10_book_13 : decode cX10_book 13 = .ok (.getfield 33, 3) := by decide +kernel
theorem dX10_book_16 : decode cX10_book 16 = .ok (.iload_n 1, 1) := by decide +kernel
theorem dX10_book_17 : decode cX10_book 17 = .ok (.invokevirtual 207, 3) := by decide +kernel
theorem dX10_book_20 : decode cX10_book 20 = .ok (.ireturn, 1) := by decide +kernel
theorem dX10_read_0 : decode cX10_read 0 = .ok (.iload_n 1, 1) := by decide +kernel
theorem dX10_read_1 : decode cX10_read 1 = .ok (.iconst 0, 1) := by decide +kernel
theorem dX10_read_2 : decode cX10_read 2 = .ok (.aload_n 0, 1) := by decide +kernel
theorem dX10_read_3 : decode cX10_read 3 = .ok (.getfield 33, 3) := by decide +kernel
theorem dX10_read_6 : decode cX10_read 6 = .ok (.invokevirtual 209, 3) := by decide +kernel
theorem dX10_read_9 : decode cX10_read 9 = .ok (.iconst 1, 1) := by decide +kernel
theorem dX10_read_10 : decode cX10_read 10 = .ok (.isub, 1) := by decide +kernel
theorem dX10_read_11 : decode cX10_read 11 = .ok (.invokestatic 76, 3) := by decide +kernel
theorem dX10_read_14 : decode cX10_read 14 = .ok (.ifCond .ne 7, 3) := by decide +kernel
theorem dX10_read_17 : decode cX10_read 17 = .ok (.ldc2_w 147, 3) := by decide +kernel
theorem dX10_read_20 : decode cX10_read 20 = .ok (.lreturn, 1) := by decide +kernel
theorem dX10_read_21 : decode cX10_read 21 = .ok (.iload_n 2, 1) := by decide +kernel
theorem dX10_read_22 : decode cX10_read 22 = .ok (.bipush 8, 2) := by decide +kernel
theorem dX10_read_24 : decode cX10_read 24 = .ok (.invokestatic 178, 3) := by decide +kernel
theorem dX10_read_27 : decode cX10_read 27 = .ok (.ifCond .eq 18, 3) := by decide +kernel
theorem dX10_read_30 : decode cX10_read 30 = .ok (.iload_n 3, 1) := by decide +kernel
theorem dX10_read_31 : decode cX10_read 31 = .ok (.invokestatic 210, 3) := by decide +kernel
theorem dX10_read_34 : decode cX10_read 34 = .ok (.ifCond .eq 11, 3) := by decide +kernel
theorem dX10_read_37 : decode cX10_read 37 = .ok (.iload 4, 2) := by decide +kernel
theorem dX10_read_39 : decode cX10_read 39 = .ok (.invokestatic 149, 3) := by decide +kernel
theorem dX10_read_42 : decode cX10_read 42 = .ok (.ifCond .ne 7, 3) := by decide +kernel
theorem dX10_read_45 : decode cX10_read 45 = .ok (.ldc2_w 152, 3) := by decide +kernel
theorem dX10_read_48 : decode cX10_read 48 = .ok (.lreturn, 1) := by decide +kernel
theorem dX10_read_49 : decode cX10_read 49 = .ok (.aload_n 0, 1) := by decide +kernel
theorem dX10_read_50 : decode cX10_read 50 = .ok (.getfield 33, 3) := by decide +kernel
theorem dX10_read_53 : decode cX10_read 53 = .ok (.iload_n 2, 1) := by decide +kernel
theorem dX10_read_54 : decode cX10_read 54 = .ok (.iload_n 3, 1) := by decide +kernel
theorem dX10_read_55 : decode cX10_read 55 = .ok (.invokevirtual 213, 3) := by decide +kernel
theorem dX10_read_58 : decode cX10_read 58 = .ok (.lstore 5, 2) := by decide +kernel
theorem dX10_read_60 : decode cX10_read 60 = .ok (.lload 5, 2) := by decide +kernel
theorem dX10_read_62 : decode cX10_read 62 = .ok (.lconst 0, 1) := by decide +kernel
theorem dX10_read_63 : decode cX10_read 63 = .ok (.lcmp, 1) := by decide +kernel
theorem dX10_read_64 : decode cX10_read 64 = .ok (.ifCond .ne 7, 3) := by decide +kernel
theorem dX10_read_67 : decode cX10_read 67 = .ok (.ldc2_w 217, 3) := by decide +kernel
theorem dX10_read_70 : decode cX10_read 70 = .ok (.lreturn, 1) := by decide +kernel
theorem dX10_read_71 : decode cX10_read 71 = .ok (.aload_n 0, 1) := by decide +kernel
theorem dX10_read_72 : decode cX10_read 72 = .ok (.getfield 33, 3) := by decide +kernel
theorem dX10_read_75 : decode cX10_read 75 = .ok (.iload_n 1, 1) := by decide +kernel
theorem dX10_read_76 : decode cX10_read 76 = .ok (.iload_n 2, 1) := by decide +kernel
theorem dX10_read_77 : decode cX10_read 77 = .ok (.iload_n 3, 1) := by decide +kernel
theorem dX10_read_78 : decode cX10_read 78 = .ok (.invokevirtual 219, 3) := by decide +kernel
theorem dX10_read_81 : decode cX10_read 81 = .ok (.lload 5, 2) := by decide +kernel
theorem dX10_read_83 : decode cX10_read 83 = .ok (.iload 4, 2) := by decide +kernel
theorem dX10_read_85 : decode cX10_read 85 = .ok (.invokestatic 163, 3) := by decide +kernel
theorem dX10_read_88 : decode cX10_read 88 = .ok (.lreturn, 1) := by decide +kernel
theorem dX10_crowd_0 : decode cX10_crowd 0 = .ok (.iload_n 1, 1) := by decide +kernel
theorem dX10_crowd_1 : decode cX10_crowd 1 = .ok (.iconst 2, 1) := by decide +kernel
theorem dX10_crowd_2 : decode cX10_crowd 2 = .ok (.if_icmp .eq 23, 3) := by decide +kernel
theorem dX10_crowd_5 : decode cX10_crowd 5 = .ok (.iload_n 1, 1) := by decide +kernel
theorem dX10_crowd_6 : decode cX10_crowd 6 = .ok (.iconst 4, 1) := by decide +kernel
theorem dX10_crowd_7 : decode cX10_crowd 7 = .ok (.if_icmp .eq 18, 3) := by decide +kernel
theorem dX10_crowd_10 : decode cX10_crowd 10 = .ok (.iload_n 1, 1) := by decide +kernel
theorem dX10_crowd_11 : decode cX10_crowd 11 = .ok (.bipush 6, 2) := by decide +kernel
theorem dX10_crowd_13 : decode cX10_crowd 13 = .ok (.if_icmp .eq 12, 3) := by decide +kernel
theorem dX10_crowd_16 : decode cX10_crowd 16 = .ok (.iload_n 1, 1) := by decide +kernel
theorem dX10_crowd_17 : decode cX10_crowd 17 = .ok (.bipush 8, 2) := by decide +kernel
theorem dX10_crowd_19 : decode cX10_crowd 19 = .ok (.if_icmp .eq 6, 3) := by decide +kernel
theorem dX10_crowd_22 : decode cX10_crowd 22 = .ok (.bipush (-102), 2) := by decide +kernel
theorem dX10_crowd_24 : decode cX10_crowd 24 = .ok (.ireturn, 1) := by decide +kernel
theorem dX10_crowd_25 : decode cX10_crowd 25 = .ok (.aload_n 0, 1) := by decide +kernel
theorem dX10_crowd_26 : decode cX10_crowd 26 = .ok (.getfield 40, 3) := by decide +kernel
theorem dX10_crowd_29 : decode cX10_crowd 29 = .ok (.invokevirtual 223, 3) := by decide +kernel
theorem dX10_crowd_32 : decode cX10_crowd 32 = .ok (.istore_n 2, 1) := by decide +kernel
theorem dX10_crowd_33 : decode cX10_crowd 33 = .ok (.aload_n 0, 1) := by decide +kernel
theorem dX10_crowd_34 : decode cX10_crowd 34 = .ok (.getfield 40, 3) := by decide +kernel
theorem dX10_crowd_37 : decode cX10_crowd 37 = .ok (.iload_n 1, 1) := by decide +kernel
theorem dX10_crowd_38 : decode cX10_crowd 38 = .ok (.invokevirtual 224, 3) := by decide +kernel
theorem dX10_crowd_41 : decode cX10_crowd 41 = .ok (.aload_n 0, 1) := by decide +kernel
theorem dX10_crowd_42 : decode cX10_crowd 42 = .ok (.getfield 54, 3) := by decide +kernel
theorem dX10_crowd_45 : decode cX10_crowd 45 = .ok (.invokevirtual 107, 3) := by decide +kernel
theorem dX10_crowd_48 : decode cX10_crowd 48 = .ok (.iload_n 2, 1) := by decide +kernel
theorem dX10_crowd_49 : decode cX10_crowd 49 = .ok (.ireturn, 1) := by decide +kernel
theorem dX10_wince_0 : decode cX10_wince 0 = .ok (.iload_n 1, 1) := by decide +kernel
theorem dX10_wince_1 : decode cX10_wince 1 = .ok (.iconst 0, 1) := by decide +kernel
theorem dX10_wince_2 : decode cX10_wince 2 = .ok (.aload_n 0, 1) := by decide +kernel
theorem dX10_wince_3 : decode cX10_wince 3 = .ok (.getfield 40, 3) := by decide +kernel
theorem dX10_wince_6 : decode cX10_wince 6 = .ok (.invokevirtual 223, 3) := by decide +kernel
theorem dX10_wince_9 : decode cX10_wince 9 = .ok (.iconst 1, 1) := by decide +kernel
theorem dX10_wince_10 : decode cX10_wince 10 = .ok (.isub, 1) := by decide +kernel
theorem dX10_wince_11 : decode cX10_wince 11 = .ok (.invokestatic 76, 3) := by decide +kernel
theorem dX10_wince_14 : decode cX10_wince 14 = .ok (.ifCond .ne 6, 3) := by decide +kernel
theorem dX10_wince_17 : decode cX10_wince 17 = .ok (.bipush (-101), 2) := by decide +kernel
theorem dX10_wince_19 : decode cX10_wince 19 = .ok (.ireturn, 1) := by decide +kernel
theorem dX10_wince_20 : decode cX10_wince 20 = .ok (.iload_n 2, 1) := by decide +kernel
theorem dX10_wince_21 : decode cX10_wince 21 = .ok (.aload_n 0, 1) := by decide +kernel
theorem dX10_wince_22 : decode cX10_wince 22 = .ok (.getfield 40, 3) := by decide +kernel
theorem dX10_wince_25 : decode cX10_wince 25 = .ok (.invokevirtual 223, 3) := by decide +kernel
theorem dX10_wince_28 : decode cX10_wince 28 = .ok (.invokestatic 178, 3) := by decide +kernel
theorem dX10_wince_31 : decode cX10_wince 31 = .ok (.ifCond .ne 6, 3) := by decide +kernel
theorem dX10_wince_34 : decode cX10_wince 34 = .ok (.bipush (-102), 2) := by decide +kernel
theorem dX10_wince_36 : decode cX10_wince 36 = .ok (.ireturn, 1) := by decide +kernel
theorem dX10_wince_37 : decode cX10_wince 37 = .ok (.aload_n 0, 1) := by decide +kernel
theorem dX10_wince_38 : decode cX10_wince 38 = .ok (.getfield 40, 3) := by decide +kernel
theorem dX10_wince_41 : decode cX10_wince 41 = .ok (.iload_n 1, 1) := by decide +kernel
theorem dX10_wince_42 : decode cX10_wince 42 = .ok (.iload_n 2, 1) := by decide +kernel
theorem dX10_wince_43 : decode cX10_wince 43 = .ok (.invokevirtual 228, 3) := by decide +kernel
theorem dX10_wince_46 : decode cX10_wince 46 = .ok (.ireturn, 1) := by decide +kernel
theorem dX10_pairings_0 : decode cX10_pairings 0 = .ok (.aload_n 0, 1) := by decide +kernel
theorem dX10_pairings_1 : decode cX10_pairings 1 = .ok (.getfield 40, 3) := by decide +kernel
theorem dX10_pairings_4 : decode cX10_pairings 4 = .ok (.invokevirtual 229, 3) := by decide +kernel
theorem dX10_pairings_7 : decode cX10_pairings 7 = .ok (.ireturn, 1) := by decide +kernel
theorem dX10_twin_0 : decode cX10_twin 0 = .ok (.iload_n 1, 1) := by decide +kernel
theorem dX10_twin_1 : decode cX10_twin 1 = .ok (.iconst 0, 1) := by decide +kernel
theorem dX10_twin_2 : decode cX10_twin 2 = .ok (.aload_n 0, 1) := by decide +kernel
theorem dX10_twin_3 : decode cX10_twin 3 = .ok (.getfield 40, 3) := by decide +kernel
theorem dX10_twin_6 : decode cX10_twin 6 = .ok (.invokevirtual 223, 3) := by decide +kernel
theorem dX10_twin_9 : decode cX10_twin 9 = .ok (.iconst 1, 1) := by decide +kernel
theorem dX10_twin_10 : decode cX10_twin 10 = .ok (.isub, 1) := by decide +kernel
theorem dX10_twin_11 : decode cX10_twin 11 = .ok (.invokestatic 76, 3) := by decide +kernel
theorem dX10_twin_14 : decode cX10_twin 14 = .ok (.ifCond .ne 6, 3) := by decide +kernel
theorem dX10_twin_17 : decode cX10_twin 17 = .ok (.bipush (-101), 2) := by decide +kernel
theorem dX10_twin_19 : decode cX10_twin 19 = .ok (.ireturn, 1) := by decide +kernel
theorem dX10_twin_20 : decode cX10_twin 20 = .ok (.aload_n 0, 1) := by decide +kernel
theorem dX10_twin_21 : decode cX10_twin 21 = .ok (.getfield 40, 3) := by decide +kernel
theorem dX10_twin_24 : decode cX10_twin 24 = .ok (.invokevirtual 229, 3) := by decide +kernel
theorem dX10_twin_27 : decode cX10_twin 27 = .ok (.pop, 1) := by decide +kernel
theorem dX10_twin_28 : decode cX10_twin 28 = .ok (.aload_n 0, 1) := by decide +kernel
theorem dX10_twin_29 : decode cX10_twin 29 = .ok (.getfield 40, 3) := by decide +kernel
theorem dX10_twin_32 : decode cX10_twin 32 = .ok (.iload_n 1, 1) := by decide +kernel
theorem dX10_twin_33 : decode cX10_twin 33 = .ok (.invokevirtual 232, 3) := by decide +kernel
theorem dX10_twin_36 : decode cX10_twin 36 = .ok (.ireturn, 1) := by decide +kernel
theorem dX10_round_0 : decode cX10_round 0 = .ok (.iload_n 1, 1) := by decide +kernel
theorem dX10_round_1 : decode cX10_round 1 = .ok (.iconst 2, 1) := by decide +kernel
theorem dX10_round_2 : decode cX10_round 2 = .ok (.bipush 9, 2) := by decide +kernel
theorem dX10_round_4 : decode cX10_round 4 = .ok (.invokestatic 76, 3) := by decide +kernel
theorem dX10_round_7 : decode cX10_round 7 = .ok (.ifCond .eq 17, 3) := by decide +kernel
theorem dX10_round_10 : decode cX10_round 10 = .ok (.iload_n 2, 1) := by decide +kernel
theorem dX10_round_11 : decode cX10_round 11 = .ok (.invokestatic 210, 3) := by decide +kernel
theorem dX10_round_14 : decode cX10_round 14 = .ok (.ifCond .eq 10, 3) := by decide +kernel
theorem dX10_round_17 : decode cX10_round 17 = .ok (.iload_n 3, 1) := by decide +kernel
theorem dX10_round_18 : decode cX10_round 18 = .ok (.invokestatic 149, 3) := by decide +kernel
theorem dX10_round_21 : decode cX10_round 21 = .ok (.ifCond .ne 7, 3) := by decide +kernel
theorem dX10_round_24 : decode cX10_round 24 = .ok (.ldc2_w 152, 3) := by decide +kernel
theorem dX10_round_27 : decode cX10_round 27 = .ok (.lreturn, 1) := by decide +kernel
theorem dX10_round_28 : decode cX10_round 28 = .ok (.iload_n 2, 1) := by decide +kernel
theorem dX10_round_29 : decode cX10_round 29 = .ok (.i2l, 1) := by decide +kernel
theorem dX10_round_30 : decode cX10_round 30 = .ok (.iload_n 1, 1) := by decide +kernel
theorem dX10_round_31 : decode cX10_round 31 = .ok (.iconst 1, 1) := by decide +kernel
theorem dX10_round_32 : decode cX10_round 32 = .ok (.isub, 1) := by decide +kernel
theorem dX10_round_33 : decode cX10_round 33 = .ok (.invokestatic 156, 3) := by decide +kernel
theorem dX10_round_36 : decode cX10_round 36 = .ok (.ldc2_w 154, 3) := by decide +kernel
theorem dX10_round_39 : decode cX10_round 39 = .ok (.iload_n 1, 1) := by decide +kernel
theorem dX10_round_40 : decode cX10_round 40 = .ok (.iconst 1, 1) := by decide +kernel
theorem dX10_round_41 : decode cX10_round 41 = .ok (.isub, 1) := by decide +kernel
theorem dX10_round_42 : decode cX10_round 42 = .ok (.invokestatic 156, 3) := by decide +kernel
theorem dX10_round_45 : decode cX10_round 45 = .ok (.iload_n 3, 1) := by decide +kernel
theorem dX10_round_46 : decode cX10_round 46 = .ok (.invokestatic 163, 3) := by decide +kernel
theorem dX10_round_49 : decode cX10_round 49 = .ok (.lreturn, 1) := by decide +kernel
theorem dX10_image_0 : decode cX10_image 0 = .ok (.aload_n 0, 1) := by decide +kernel
theorem dX10_image_1 : decode cX10_image 1 = .ok (.getfield 54, 3) := by decide +kernel
theorem dX10_image_4 : decode cX10_image 4 = .ok (.aload_n 0, 1) := by decide +kernel
theorem dX10_image_5 : decode cX10_image 5 = .ok (.getfield 19, 3) := by decide +kernel
theorem dX10_image_8 : decode cX10_image 8 = .ok (.aload_n 0, 1) := by decide +kernel
theorem dX10_image_9 : decode cX10_image 9 = .ok (.getfield 58, 3) := by decide +kernel
theorem dX10_image_12 : decode cX10_image 12 = .ok (.aload_n 0, 1) := by decide +kernel
theorem dX10_image_13 : decode cX10_image 13 = .ok (.getfield 33, 3) := by decide +kernel
theorem dX10_image_16 : decode cX10_image 16 = .ok (.aload_n 0, 1) := by decide +kernel
theorem dX10_image_17 : decode cX10_image 17 = .ok (.getfield 40, 3) := by decide +kernel
theorem dX10_image_20 : decode cX10_image 20 = .ok (.invokevirtual 235, 3) := by decide +kernel
theorem dX10_image_23 : decode cX10_image 23 = .ok (.aload_n 0, 1) := by decide +kernel
theorem dX10_image_24 : decode cX10_image 24 = .ok (.getfield 19, 3) := by decide +kernel
theorem dX10_image_27 : decode cX10_image 27 = .ok (.invokevirtual 138, 3) := by decide +kernel
theorem dX10_image_30 : decode cX10_image 30 = .ok (.ireturn, 1) := by decide +kernel
theorem dX10_restore_0 : decode cX10_restore 0 = .ok (.aload_n 0, 1) := by decide +kernel
theorem dX10_restore_1 : decode cX10_restore 1 = .ok (.getfield 54, 3) := by decide +kernel
theorem dX10_restore_4 : decode cX10_restore 4 = .ok (.invokevirtual 239, 3) := by decide +kernel
theorem dX10_restore_7 : decode cX10_restore 7 = .ok (.ifCond .ne 6, 3) := by decide +kernel
theorem dX10_restore_10 : decode cX10_restore 10 = .ok (.bipush (-103), 2) := by decide +kernel
theorem dX10_restore_12 : decode cX10_restore 12 = .ok (.ireturn, 1) := by decide +kernel
theorem dX10_restore_13 : decode cX10_restore 13 = .ok (.aload_n 0, 1) := by decide +kernel
theorem dX10_restore_14 : decode cX10_restore 14 = .ok (.getfield 54, 3) := by decide +kernel
theorem dX10_restore_17 : decode cX10_restore 17 = .ok (.aload_n 0, 1) := by decide +kernel
theorem dX10_restore_18 : decode cX10_restore 18 = .ok (.getfield 19, 3) := by decide +kernel
theorem dX10_restore_21 : decode cX10_restore 21 = .ok (.aload_n 0, 1) := by decide +kernel
theorem dX10_restore_22 : decode cX10_restore 22 = .ok (.getfield 58, 3) := by decide +kernel
theorem dX10_restore_25 : decode cX10_restore 25 = .ok (.aload_n 0, 1) := by decide +kernel
theorem dX10_restore_26 : decode cX10_restore 26 = .ok (.getfield 33, 3) := by decide +kernel
theorem dX10_restore_29 : decode cX10_restore 29 = .ok (.aload_n 0, 1) := by decide +kernel
theorem dX10_restore_30 : decode cX10_restore 30 = .ok (.getfield 40, 3) := by decide +kernel
theorem dX10_restore_33 : decode cX10_restore 33 = .ok (.invokevirtual 242, 3) := by decide +kernel
theorem dX10_restore_36 : decode cX10_restore 36 = .ok (.aload_n 0, 1) := by decide +kernel
theorem dX10_restore_37 : decode cX10_restore 37 = .ok (.getfield 19, 3) := by decide +kernel
theorem dX10_restore_40 : decode cX10_restore 40 = .ok (.invokevirtual 138, 3) := by decide +kernel
theorem dX10_restore_43 : decode cX10_restore 43 = .ok (.ireturn, 1) := by decide +kernel
theorem dX10_count_0 : decode cX10_count 0 = .ok (.iload_n 1, 1) := by decide +kernel
theorem dX10_count_1 : decode cX10_count 1 = .ok (.tableswitch 117 0 8 #[51, 59, 67, 75, 83, 91, 99, 107, 112], 51) := by decide +kernel
theorem dX10_count_52 : decode cX10_count 52 = .ok (.aload_n 0, 1) := by decide +kernel
theorem dX10_count_53 : decode cX10_count 53 = .ok (.getfield 65, 3) := by decide +kernel
theorem dX10_count_56 : decode cX10_count 56 = .ok (.invokevirtual 114, 3) := by decide +kernel
theorem dX10_count_59 : decode cX10_count 59 = .ok (.ireturn, 1) := by decide +kernel
theorem dX10_count_60 : decode cX10_count 60 = .ok (.aload_n 0, 1) := by decide +kernel
theorem dX10_count_61 : decode cX10_count 61 = .ok (.getfield 19, 3) := by decide +kernel
theorem dX10_count_64 : decode cX10_count 64 = .ok (.invokevirtual 138, 3) := by decide +kernel
theorem dX10_count_67 : decode cX10_count 67 = .ok (.ireturn, 1) := by decide +kernel
theorem dX10_count_68 : decode cX10_count 68 = .ok (.aload_n 0, 1) := by decide +kernel
theorem dX10_count_69 : decode cX10_count 69 = .ok (.getfield 26, 3) := by decide +kernel
theorem dX10_count_72 : decode cX10_count 72 = .ok (.invokevirtual 245, 3) := by decide +kernel
theorem dX10_count_75 : decode cX10_count 75 = .ok (.ireturn, 1) := by decide +kernel
theorem dX10_count_76 : decode cX10_count 76 = .ok (.aload_n 0, 1) := by decide +kernel
theorem dX10_count_77 : decode cX10_count 77 = .ok (.getfield 33, 3) := by decide +kernel
theorem dX10_count_80 : decode cX10_count 80 = .ok (.invokevirtual 209, 3) := by decide +kernel
theorem dX10_count_83 : decode cX10_count 83 = .ok (.ireturn, 1) := by decide +kernel
theorem dX10_count_84 : decode cX10_count 84 = .ok (.aload_n 0, 1) := by decide +kernel
theorem dX10_count_85 : decode cX10_count 85 = .ok (.getfield 40, 3) := by decide +kernel
theorem dX10_count_88 : decode cX10_count 88 = .ok (.invokevirtual 223, 3) := by decide +kernel
theorem dX10_count_91 : decode cX10_count 91 = .ok (.ireturn, 1) := by decide +kernel
theorem dX10_count_92 : decode cX10_count 92 = .ok (.aload_n 0, 1) := by decide +kernel
theorem dX10_count_93 : decode cX10_count 93 = .ok (.getfield 40, 3) := by decide +kernel
theorem dX10_count_96 : decode cX10_count 96 = .ok (.invokevirtual 248, 3) := by decide +kernel
theorem dX10_count_99 : decode cX10_count 99 = .ok (.ireturn, 1) := by decide +kernel
theorem dX10_count_100 : decode cX10_count 100 = .ok (.aload_n 0, 1) := by decide +kernel
theorem dX10_count_101 : decode cX10_count 101 = .ok (.getfield 10, 3) := by decide +kernel
theorem dX10_count_104 : decode cX10_count 104 = .ok (.invokevirtual 91, 3) := by decide +kernel
theorem dX10_count_107 : decode cX10_count 107 = .ok (.ireturn, 1) := by decide +kernel
theorem dX10_count_108 : decode cX10_count 108 = .ok (.aload_n 0, 1) := by decide +kernel
theorem dX10_count_109 : decode cX10_count 109 = .ok (.getfield 110, 3) := by decide +kernel
theorem dX10_count_112 : decode cX10_count 112 = .ok (.ireturn, 1) := by decide +kernel
theorem dX10_count_113 : decode cX10_count 113 = .ok (.aload_n 0, 1) := by decide +kernel
theorem dX10_count_114 : decode cX10_count 114 = .ok (.getfield 181, 3) := by decide +kernel
theorem dX10_count_117 : decode cX10_count 117 = .ok (.ireturn, 1) := by decide +kernel
theorem dX10_count_118 : decode cX10_count 118 = .ok (.bipush (-102), 2) := by decide +kernel
theorem dX10_count_120 : decode cX10_count 120 = .ok (.ireturn, 1) := by decide +kernel
theorem dX10_digest_0 : decode cX10_digest 0 = .ok (.ldc2_w 251, 3) := by decide +kernel
theorem dX10_digest_3 : decode cX10_digest 3 = .ok (.lstore_n 1, 1) := by decide +kernel
theorem dX10_digest_4 : decode cX10_digest 4 = .ok (.aload_n 0, 1) := by decide +kernel
theorem dX10_digest_5 : decode cX10_digest 5 = .ok (.lload_n 1, 1) := by decide +kernel
theorem dX10_digest_6 : decode cX10_digest 6 = .ok (.invokevirtual 253, 3) := by decide +kernel
theorem dX10_digest_9 : decode cX10_digest 9 = .ok (.lstore_n 1, 1) := by decide +kernel
theorem dX10_digest_10 : decode cX10_digest 10 = .ok (.aload_n 0, 1) := by decide +kernel
theorem dX10_digest_11 : decode cX10_digest 11 = .ok (.lload_n 1, 1) := by decide +kernel
theorem dX10_digest_12 : decode cX10_digest 12 = .ok (.invokevirtual 257, 3) := by decide +kernel
theorem dX10_digest_15 : decode cX10_digest 15 = .ok (.lstore_n 1, 1) := by decide +kernel
theorem dX10_digest_16 : decode cX10_digest 16 = .ok (.lload_n 1, 1) := by decide +kernel
theorem dX10_digest_17 : decode cX10_digest 17 = .ok (.aload_n 0, 1) := by decide +kernel
theorem dX10_digest_18 : decode cX10_digest 18 = .ok (.invokevirtual 260, 3) := by decide +kernel
theorem dX10_digest_21 : decode cX10_digest 21 = .ok (.i2l, 1) := by decide +kernel
theorem dX10_digest_22 : decode cX10_digest 22 = .ok (.invokestatic 263, 3) := by decide +kernel
theorem dX10_digest_25 : decode cX10_digest 25 = .ok (.lstore_n 1, 1) := by decide +kernel
theorem dX10_digest_26 : decode cX10_digest 26 = .ok (.aload_n 0, 1) := by decide +kernel
theorem dX10_digest_27 : decode cX10_digest 27 = .ok (.lload_n 1, 1) := by decide +kernel
theorem dX10_digest_28 : decode cX10_digest 28 = .ok (.invokevirtual 267, 3) := by decide +kernel
theorem dX10_digest_31 : decode cX10_digest 31 = .ok (.lstore_n 1, 1) := by decide +kernel
end
section
theorem dX10_digest_32 : decode cX10_digest 32 = .ok (.aload_n 0, 1) := by decide +kernel
theorem dX10_digest_33 : decode cX10_digest 33 = .ok (.lload_n 1, 1) := by decide +kernel
theorem dX10_digest_34 : decode cX10_digest 34 = .ok (.invokevirtual 270, 3) := by decide +kernel
theorem dX10_digest_37 : decode cX10_digest 37 = .ok (.lstore_n 1, 1) := by decide +kernel
theorem dX10_digest_38 : decode cX10_digest 38 = .ok (.aload_n 0, 1) := by decide +kernel
theorem dX10_digest_39 : decode cX10_digest 39 = .ok (.lload_n 1, 1) := by decide +kernel
theorem dX10_digest_40 : decode cX10_digest 40 = .ok (.invokevirtual 273, 3) := by decide +kernel
theorem dX10_digest_43 : decode cX10_digest 43 = .ok (.lstore_n 1, 1) := by decide +kernel
theorem dX10_digest_44 : decode cX10_digest 44 = .ok (.aload_n 0, 1) := by decide +kernel
theorem dX10_digest_45 : decode cX10_digest 45 = .ok (.lload_n 1, 1) := by decide +kernel
theorem dX10_digest_46 : decode cX10_digest 46 = .ok (.invokevirtual 276, 3) := by decide +kernel
theorem dX10_digest_49 : decode cX10_digest 49 = .ok (.lstore_n 1, 1) := by decide +kernel
theorem dX10_digest_50 : decode cX10_digest 50 = .ok (.iconst 0, 1) := by decide +kernel
theorem dX10_digest_51 : decode cX10_digest 51 = .ok (.istore_n 3, 1) := by decide +kernel
theorem dX10_digest_52 : decode cX10_digest 52 = .ok (.iload_n 3, 1) := by decide +kernel
theorem dX10_digest_53 : decode cX10_digest 53 = .ok (.bipush 9, 2) := by decide +kernel
theorem dX10_digest_55 : decode cX10_digest 55 = .ok (.if_icmp .ge 20, 3) := by decide +kernel
theorem dX10_digest_58 : decode cX10_digest 58 = .ok (.lload_n 1, 1) := by decide +kernel
theorem dX10_digest_59 : decode cX10_digest 59 = .ok (.aload_n 0, 1) := by decide +kernel
theorem dX10_digest_60 : decode cX10_digest 60 = .ok (.iload_n 3, 1) := by decide +kernel
theorem dX10_digest_61 : decode cX10_digest 61 = .ok (.invokevirtual 279, 3) := by decide +kernel
theorem dX10_digest_64 : decode cX10_digest 64 = .ok (.i2l, 1) := by decide +kernel
theorem dX10_digest_65 : decode cX10_digest 65 = .ok (.invokestatic 263, 3) := by decide +kernel
theorem dX10_digest_68 : decode cX10_digest 68 = .ok (.lstore_n 1, 1) := by decide +kernel
theorem dX10_digest_69 : decode cX10_digest 69 = .ok (.iinc 3 1, 3) := by decide +kernel
theorem dX10_digest_72 : decode cX10_digest 72 = .ok (.goto (-20), 3) := by decide +kernel
theorem dX10_digest_75 : decode cX10_digest 75 = .ok (.lload_n 1, 1) := by decide +kernel
theorem dX10_digest_76 : decode cX10_digest 76 = .ok (.lreturn, 1) := by decide +kernel
theorem dX10_mixBirths_0 : decode cX10_mixBirths 0 = .ok (.lload_n 1, 1) := by decide +kernel
theorem dX10_mixBirths_1 : decode cX10_mixBirths 1 = .ok (.lstore_n 3, 1) := by decide +kernel
theorem dX10_mixBirths_2 : decode cX10_mixBirths 2 = .ok (.iconst 0, 1) := by decide +kernel
theorem dX10_mixBirths_3 : decode cX10_mixBirths 3 = .ok (.istore 5, 2) := by decide +kernel
theorem dX10_mixBirths_5 : decode cX10_mixBirths 5 = .ok (.iload 5, 2) := by decide +kernel
theorem dX10_mixBirths_7 : decode cX10_mixBirths 7 = .ok (.aload_n 0, 1) := by decide +kernel
theorem dX10_mixBirths_8 : decode cX10_mixBirths 8 = .ok (.getfield 65, 3) := by decide +kernel
theorem dX10_mixBirths_11 : decode cX10_mixBirths 11 = .ok (.invokevirtual 114, 3) := by decide +kernel
theorem dX10_mixBirths_14 : decode cX10_mixBirths 14 = .ok (.if_icmp .ge 39, 3) := by decide +kernel
theorem dX10_mixBirths_17 : decode cX10_mixBirths 17 = .ok (.iconst 0, 1) := by decide +kernel
theorem dX10_mixBirths_18 : decode cX10_mixBirths 18 = .ok (.istore 6, 2) := by decide +kernel
theorem dX10_mixBirths_20 : decode cX10_mixBirths 20 = .ok (.iload 6, 2) := by decide +kernel
theorem dX10_mixBirths_22 : decode cX10_mixBirths 22 = .ok (.bipush 7, 2) := by decide +kernel
theorem dX10_mixBirths_24 : decode cX10_mixBirths 24 = .ok (.if_icmp .ge 23, 3) := by decide +kernel
theorem dX10_mixBirths_27 : decode cX10_mixBirths 27 = .ok (.lload_n 3, 1) := by decide +kernel
theorem dX10_mixBirths_28 : decode cX10_mixBirths 28 = .ok (.aload_n 0, 1) := by decide +kernel
theorem dX10_mixBirths_29 : decode cX10_mixBirths 29 = .ok (.iload 5, 2) := by decide +kernel
theorem dX10_mixBirths_31 : decode cX10_mixBirths 31 = .ok (.iload 6, 2) := by decide +kernel
theorem dX10_mixBirths_33 : decode cX10_mixBirths 33 = .ok (.invokevirtual 282, 3) := by decide +kernel
theorem dX10_mixBirths_36 : decode cX10_mixBirths 36 = .ok (.i2l, 1) := by decide +kernel
theorem dX10_mixBirths_37 : decode cX10_mixBirths 37 = .ok (.invokestatic 263, 3) := by decide +kernel
theorem dX10_mixBirths_40 : decode cX10_mixBirths 40 = .ok (.lstore_n 3, 1) := by decide +kernel
theorem dX10_mixBirths_41 : decode cX10_mixBirths 41 = .ok (.iinc 6 1, 3) := by decide +kernel
theorem dX10_mixBirths_44 : decode cX10_mixBirths 44 = .ok (.goto (-24), 3) := by decide +kernel
theorem dX10_mixBirths_47 : decode cX10_mixBirths 47 = .ok (.iinc 5 1, 3) := by decide +kernel
theorem dX10_mixBirths_50 : decode cX10_mixBirths 50 = .ok (.goto (-45), 3) := by decide +kernel
theorem dX10_mixBirths_53 : decode cX10_mixBirths 53 = .ok (.lload_n 3, 1) := by decide +kernel
theorem dX10_mixBirths_54 : decode cX10_mixBirths 54 = .ok (.lreturn, 1) := by decide +kernel
theorem dX10_mixPeople_0 : decode cX10_mixPeople 0 = .ok (.lload_n 1, 1) := by decide +kernel
theorem dX10_mixPeople_1 : decode cX10_mixPeople 1 = .ok (.lstore_n 3, 1) := by decide +kernel
theorem dX10_mixPeople_2 : decode cX10_mixPeople 2 = .ok (.iconst 0, 1) := by decide +kernel
theorem dX10_mixPeople_3 : decode cX10_mixPeople 3 = .ok (.istore 5, 2) := by decide +kernel
theorem dX10_mixPeople_5 : decode cX10_mixPeople 5 = .ok (.iload 5, 2) := by decide +kernel
theorem dX10_mixPeople_7 : decode cX10_mixPeople 7 = .ok (.bipush 10, 2) := by decide +kernel
theorem dX10_mixPeople_9 : decode cX10_mixPeople 9 = .ok (.if_icmp .ge 54, 3) := by decide +kernel
theorem dX10_mixPeople_12 : decode cX10_mixPeople 12 = .ok (.iconst 0, 1) := by decide +kernel
theorem dX10_mixPeople_13 : decode cX10_mixPeople 13 = .ok (.istore 6, 2) := by decide +kernel
theorem dX10_mixPeople_15 : decode cX10_mixPeople 15 = .ok (.iload 6, 2) := by decide +kernel
theorem dX10_mixPeople_17 : decode cX10_mixPeople 17 = .ok (.iconst 3, 1) := by decide +kernel
theorem dX10_mixPeople_18 : decode cX10_mixPeople 18 = .ok (.if_icmp .ge 23, 3) := by decide +kernel
theorem dX10_mixPeople_21 : decode cX10_mixPeople 21 = .ok (.lload_n 3, 1) := by decide +kernel
theorem dX10_mixPeople_22 : decode cX10_mixPeople 22 = .ok (.aload_n 0, 1) := by decide +kernel
theorem dX10_mixPeople_23 : decode cX10_mixPeople 23 = .ok (.iload 5, 2) := by decide +kernel
theorem dX10_mixPeople_25 : decode cX10_mixPeople 25 = .ok (.iload 6, 2) := by decide +kernel
theorem dX10_mixPeople_27 : decode cX10_mixPeople 27 = .ok (.invokevirtual 285, 3) := by decide +kernel
theorem dX10_mixPeople_30 : decode cX10_mixPeople 30 = .ok (.i2l, 1) := by decide +kernel
theorem dX10_mixPeople_31 : decode cX10_mixPeople 31 = .ok (.invokestatic 263, 3) := by decide +kernel
theorem dX10_mixPeople_34 : decode cX10_mixPeople 34 = .ok (.lstore_n 3, 1) := by decide +kernel
theorem dX10_mixPeople_35 : decode cX10_mixPeople 35 = .ok (.iinc 6 1, 3) := by decide +kernel
theorem dX10_mixPeople_38 : decode cX10_mixPeople 38 = .ok (.goto (-23), 3) := by decide +kernel
theorem dX10_mixPeople_41 : decode cX10_mixPeople 41 = .ok (.lload_n 3, 1) := by decide +kernel
theorem dX10_mixPeople_42 : decode cX10_mixPeople 42 = .ok (.aload_n 0, 1) := by decide +kernel
theorem dX10_mixPeople_43 : decode cX10_mixPeople 43 = .ok (.iload 5, 2) := by decide +kernel
theorem dX10_mixPeople_45 : decode cX10_mixPeople 45 = .ok (.iconst 0, 1) := by decide +kernel
theorem dX10_mixPeople_46 : decode cX10_mixPeople 46 = .ok (.sipush 1999, 3) := by decide +kernel
theorem dX10_mixPeople_49 : decode cX10_mixPeople 49 = .ok (.invokevirtual 288, 3) := by decide +kernel
theorem dX10_mixPeople_52 : decode cX10_mixPeople 52 = .ok (.i2l, 1) := by decide +kernel
theorem dX10_mixPeople_53 : decode cX10_mixPeople 53 = .ok (.invokestatic 263, 3) := by decide +kernel
theorem dX10_mixPeople_56 : decode cX10_mixPeople 56 = .ok (.lstore_n 3, 1) := by decide +kernel
theorem dX10_mixPeople_57 : decode cX10_mixPeople 57 = .ok (.iinc 5 1, 3) := by decide +kernel
theorem dX10_mixPeople_60 : decode cX10_mixPeople 60 = .ok (.goto (-55), 3) := by decide +kernel
theorem dX10_mixPeople_63 : decode cX10_mixPeople 63 = .ok (.lload_n 3, 1) := by decide +kernel
theorem dX10_mixPeople_64 : decode cX10_mixPeople 64 = .ok (.lreturn, 1) := by decide +kernel
theorem dX10_mixNews_0 : decode cX10_mixNews 0 = .ok (.lload_n 1, 1) := by decide +kernel
theorem dX10_mixNews_1 : decode cX10_mixNews 1 = .ok (.lstore_n 3, 1) := by decide +kernel
theorem dX10_mixNews_2 : decode cX10_mixNews 2 = .ok (.aload_n 0, 1) := by decide +kernel
theorem dX10_mixNews_3 : decode cX10_mixNews 3 = .ok (.getfield 26, 3) := by decide +kernel
theorem dX10_mixNews_6 : decode cX10_mixNews 6 = .ok (.aload_n 0, 1) := by decide +kernel
theorem dX10_mixNews_7 : decode cX10_mixNews 7 = .ok (.getfield 65, 3) := by decide +kernel
theorem dX10_mixNews_10 : decode cX10_mixNews 10 = .ok (.aload_n 0, 1) := by decide +kernel
theorem dX10_mixNews_11 : decode cX10_mixNews 11 = .ok (.getfield 58, 3) := by decide +kernel
theorem dX10_mixNews_14 : decode cX10_mixNews 14 = .ok (.iconst 0, 1) := by decide +kernel
theorem dX10_mixNews_15 : decode cX10_mixNews 15 = .ok (.invokevirtual 171, 3) := by decide +kernel
theorem dX10_mixNews_18 : decode cX10_mixNews 18 = .ok (.iconst 0, 1) := by decide +kernel
theorem dX10_mixNews_19 : decode cX10_mixNews 19 = .ok (.istore 5, 2) := by decide +kernel
theorem dX10_mixNews_21 : decode cX10_mixNews 21 = .ok (.iload 5, 2) := by decide +kernel
theorem dX10_mixNews_23 : decode cX10_mixNews 23 = .ok (.bipush 6, 2) := by decide +kernel
theorem dX10_mixNews_25 : decode cX10_mixNews 25 = .ok (.if_icmp .ge 42, 3) := by decide +kernel
theorem dX10_mixNews_28 : decode cX10_mixNews 28 = .ok (.iconst 0, 1) := by decide +kernel
theorem dX10_mixNews_29 : decode cX10_mixNews 29 = .ok (.istore 6, 2) := by decide +kernel
theorem dX10_mixNews_31 : decode cX10_mixNews 31 = .ok (.iload 6, 2) := by decide +kernel
theorem dX10_mixNews_33 : decode cX10_mixNews 33 = .ok (.bipush 6, 2) := by decide +kernel
theorem dX10_mixNews_35 : decode cX10_mixNews 35 = .ok (.if_icmp .ge 26, 3) := by decide +kernel
theorem dX10_mixNews_38 : decode cX10_mixNews 38 = .ok (.lload_n 3, 1) := by decide +kernel
theorem dX10_mixNews_39 : decode cX10_mixNews 39 = .ok (.aload_n 0, 1) := by decide +kernel
theorem dX10_mixNews_40 : decode cX10_mixNews 40 = .ok (.getfield 26, 3) := by decide +kernel
theorem dX10_mixNews_43 : decode cX10_mixNews 43 = .ok (.iload 5, 2) := by decide +kernel
theorem dX10_mixNews_45 : decode cX10_mixNews 45 = .ok (.iload 6, 2) := by decide +kernel
theorem dX10_mixNews_47 : decode cX10_mixNews 47 = .ok (.invokevirtual 175, 3) := by decide +kernel
theorem dX10_mixNews_50 : decode cX10_mixNews 50 = .ok (.i2l, 1) := by decide +kernel
theorem dX10_mixNews_51 : decode cX10_mixNews 51 = .ok (.invokestatic 263, 3) := by decide +kernel
theorem dX10_mixNews_54 : decode cX10_mixNews 54 = .ok (.lstore_n 3, 1) := by decide +kernel
theorem dX10_mixNews_55 : decode cX10_mixNews 55 = .ok (.iinc 6 1, 3) := by decide +kernel
theorem dX10_mixNews_58 : decode cX10_mixNews 58 = .ok (.goto (-27), 3) := by decide +kernel
theorem dX10_mixNews_61 : decode cX10_mixNews 61 = .ok (.iinc 5 1, 3) := by decide +kernel
theorem dX10_mixNews_64 : decode cX10_mixNews 64 = .ok (.goto (-43), 3) := by decide +kernel
theorem dX10_mixNews_67 : decode cX10_mixNews 67 = .ok (.lload_n 3, 1) := by decide +kernel
theorem dX10_mixNews_68 : decode cX10_mixNews 68 = .ok (.lreturn, 1) := by decide +kernel
theorem dX10_mixBook_0 : decode cX10_mixBook 0 = .ok (.lload_n 1, 1) := by decide +kernel
theorem dX10_mixBook_1 : decode cX10_mixBook 1 = .ok (.lstore_n 3, 1) := by decide +kernel
theorem dX10_mixBook_2 : decode cX10_mixBook 2 = .ok (.iconst 0, 1) := by decide +kernel
theorem dX10_mixBook_3 : decode cX10_mixBook 3 = .ok (.istore 5, 2) := by decide +kernel
theorem dX10_mixBook_5 : decode cX10_mixBook 5 = .ok (.iload 5, 2) := by decide +kernel
theorem dX10_mixBook_7 : decode cX10_mixBook 7 = .ok (.aload_n 0, 1) := by decide +kernel
theorem dX10_mixBook_8 : decode cX10_mixBook 8 = .ok (.getfield 33, 3) := by decide +kernel
theorem dX10_mixBook_11 : decode cX10_mixBook 11 = .ok (.invokevirtual 209, 3) := by decide +kernel
theorem dX10_mixBook_14 : decode cX10_mixBook 14 = .ok (.if_icmp .ge 24, 3) := by decide +kernel
theorem dX10_mixBook_17 : decode cX10_mixBook 17 = .ok (.lload_n 3, 1) := by decide +kernel
theorem dX10_mixBook_18 : decode cX10_mixBook 18 = .ok (.aload_n 0, 1) := by decide +kernel
theorem dX10_mixBook_19 : decode cX10_mixBook 19 = .ok (.getfield 33, 3) := by decide +kernel
theorem dX10_mixBook_22 : decode cX10_mixBook 22 = .ok (.iload 5, 2) := by decide +kernel
theorem dX10_mixBook_24 : decode cX10_mixBook 24 = .ok (.invokevirtual 291, 3) := by decide +kernel
theorem dX10_mixBook_27 : decode cX10_mixBook 27 = .ok (.i2l, 1) := by decide +kernel
theorem dX10_mixBook_28 : decode cX10_mixBook 28 = .ok (.invokestatic 263, 3) := by decide +kernel
theorem dX10_mixBook_31 : decode cX10_mixBook 31 = .ok (.lstore_n 3, 1) := by decide +kernel
theorem dX10_mixBook_32 : decode cX10_mixBook 32 = .ok (.iinc 5 1, 3) := by decide +kernel
theorem dX10_mixBook_35 : decode cX10_mixBook 35 = .ok (.goto (-30), 3) := by decide +kernel
theorem dX10_mixBook_38 : decode cX10_mixBook 38 = .ok (.lload_n 3, 1) := by decide +kernel
theorem dX10_mixBook_39 : decode cX10_mixBook 39 = .ok (.lreturn, 1) := by decide +kernel
theorem dX10_mixCrowd_0 : decode cX10_mixCrowd 0 = .ok (.lload_n 1, 1) := by decide +kernel
theorem dX10_mixCrowd_1 : decode cX10_mixCrowd 1 = .ok (.aload_n 0, 1) := by decide +kernel
theorem dX10_mixCrowd_2 : decode cX10_mixCrowd 2 = .ok (.getfield 40, 3) := by decide +kernel
theorem dX10_mixCrowd_5 : decode cX10_mixCrowd 5 = .ok (.invokevirtual 229, 3) := by decide +kernel
theorem dX10_mixCrowd_8 : decode cX10_mixCrowd 8 = .ok (.i2l, 1) := by decide +kernel
theorem dX10_mixCrowd_9 : decode cX10_mixCrowd 9 = .ok (.invokestatic 263, 3) := by decide +kernel
theorem dX10_mixCrowd_12 : decode cX10_mixCrowd 12 = .ok (.lstore_n 3, 1) := by decide +kernel
theorem dX10_mixCrowd_13 : decode cX10_mixCrowd 13 = .ok (.iconst 0, 1) := by decide +kernel
theorem dX10_mixCrowd_14 : decode cX10_mixCrowd 14 = .ok (.istore 5, 2) := by decide +kernel
theorem dX10_mixCrowd_16 : decode cX10_mixCrowd 16 = .ok (.iload 5, 2) := by decide +kernel
theorem dX10_mixCrowd_18 : decode cX10_mixCrowd 18 = .ok (.aload_n 0, 1) := by decide +kernel
theorem dX10_mixCrowd_19 : decode cX10_mixCrowd 19 = .ok (.getfield 40, 3) := by decide +kernel
theorem dX10_mixCrowd_22 : decode cX10_mixCrowd 22 = .ok (.invokevirtual 223, 3) := by decide +kernel
theorem dX10_mixCrowd_25 : decode cX10_mixCrowd 25 = .ok (.if_icmp .ge 24, 3) := by decide +kernel
theorem dX10_mixCrowd_28 : decode cX10_mixCrowd 28 = .ok (.lload_n 3, 1) := by decide +kernel
theorem dX10_mixCrowd_29 : decode cX10_mixCrowd 29 = .ok (.aload_n 0, 1) := by decide +kernel
theorem dX10_mixCrowd_30 : decode cX10_mixCrowd 30 = .ok (.getfield 40, 3) := by decide +kernel
theorem dX10_mixCrowd_33 : decode cX10_mixCrowd 33 = .ok (.iload 5, 2) := by decide +kernel
theorem dX10_mixCrowd_35 : decode cX10_mixCrowd 35 = .ok (.invokevirtual 232, 3) := by decide +kernel
theorem dX10_mixCrowd_38 : decode cX10_mixCrowd 38 = .ok (.i2l, 1) := by decide +kernel
theorem dX10_mixCrowd_39 : decode cX10_mixCrowd 39 = .ok (.invokestatic 263, 3) := by decide +kernel
theorem dX10_mixCrowd_42 : decode cX10_mixCrowd 42 = .ok (.lstore_n 3, 1) := by decide +kernel
theorem dX10_mixCrowd_43 : decode cX10_mixCrowd 43 = .ok (.iinc 5 1, 3) := by decide +kernel
theorem dX10_mixCrowd_46 : decode cX10_mixCrowd 46 = .ok (.goto (-30), 3) := by decide +kernel
theorem dX10_mixCrowd_49 : decode cX10_mixCrowd 49 = .ok (.lload_n 3, 1) := by decide +kernel
theorem dX10_mixCrowd_50 : decode cX10_mixCrowd 50 = .ok (.lreturn, 1) := by decide +kernel
theorem dX10_mixPage_0 : decode cX10_mixPage 0 = .ok (.lload_n 1, 1) := by decide +kernel
theorem dX10_mixPage_1 : decode cX10_mixPage 1 = .ok (.lstore_n 3, 1) := by decide +kernel
theorem dX10_mixPage_2 : decode cX10_mixPage 2 = .ok (.iconst 0, 1) := by decide +kernel
theorem dX10_mixPage_3 : decode cX10_mixPage 3 = .ok (.istore 5, 2) := by decide +kernel
theorem dX10_mixPage_5 : decode cX10_mixPage 5 = .ok (.iload 5, 2) := by decide +kernel
theorem dX10_mixPage_7 : decode cX10_mixPage 7 = .ok (.aload_n 0, 1) := by decide +kernel
theorem dX10_mixPage_8 : decode cX10_mixPage 8 = .ok (.getfield 10, 3) := by decide +kernel
theorem dX10_mixPage_11 : decode cX10_mixPage 11 = .ok (.invokevirtual 91, 3) := by decide +kernel
theorem dX10_mixPage_14 : decode cX10_mixPage 14 = .ok (.if_icmp .ge 24, 3) := by decide +kernel
theorem dX10_mixPage_17 : decode cX10_mixPage 17 = .ok (.lload_n 3, 1) := by decide +kernel
theorem dX10_mixPage_18 : decode cX10_mixPage 18 = .ok (.aload_n 0, 1) := by decide +kernel
theorem dX10_mixPage_19 : decode cX10_mixPage 19 = .ok (.getfield 10, 3) := by decide +kernel
theorem dX10_mixPage_22 : decode cX10_mixPage 22 = .ok (.iload 5, 2) := by decide +kernel
theorem dX10_mixPage_24 : decode cX10_mixPage 24 = .ok (.invokevirtual 294, 3) := by decide +kernel
theorem dX10_mixPage_27 : decode cX10_mixPage 27 = .ok (.i2l, 1) := by decide +kernel
theorem dX10_mixPage_28 : decode cX10_mixPage 28 = .ok (.invokestatic 263, 3) := by decide +kernel
theorem dX10_mixPage_31 : decode cX10_mixPage 31 = .ok (.lstore_n 3, 1) := by decide +kernel
theorem dX10_mixPage_32 : decode cX10_mixPage 32 = .ok (.iinc 5 1, 3) := by decide +kernel
theorem dX10_mixPage_35 : decode cX10_mixPage 35 = .ok (.goto (-30), 3) := by decide +kernel
theorem dX10_mixPage_38 : decode cX10_mixPage 38 = .ok (.lload_n 3, 1) := by decide +kernel
theorem dX10_mixPage_39 : decode cX10_mixPage 39 = .ok (.lreturn, 1) := by decide +kernel
theorem dX10_mix_0 : decode cX10_mix 0 = .ok (.ldc2_w 295, 3) := by decide +kernel
theorem dX10_mix_3 : decode cX10_mix 3 = .ok (.lload_n 0, 1) := by decide +kernel
theorem dX10_mix_4 : decode cX10_mix 4 = .ok (.lmul, 1) := by decide +kernel
theorem dX10_mix_5 : decode cX10_mix 5 = .ok (.lload_n 2, 1) := by decide +kernel
theorem dX10_mix_6 : decode cX10_mix 6 = .ok (.ladd, 1) := by decide +kernel
theorem dX10_mix_7 : decode cX10_mix 7 = .ok (.lreturn, 1) := by decide +kernel
theorem dX10_isWithin_0 : decode cX10_isWithin 0 = .ok (.iload_n 0, 1) := by decide +kernel
theorem dX10_isWithin_1 : decode cX10_isWithin 1 = .ok (.iload_n 1, 1) := by decide +kernel
theorem dX10_isWithin_2 : decode cX10_isWithin 2 = .ok (.if_icmp .lt 12, 3) := by decide +kernel
theorem dX10_isWithin_5 : decode cX10_isWithin 5 = .ok (.iload_n 0, 1) := by decide +kernel
theorem dX10_isWithin_6 : decode cX10_isWithin 6 = .ok (.iload_n 2, 1) := by decide +kernel
theorem dX10_isWithin_7 : decode cX10_isWithin 7 = .ok (.if_icmp .gt 7, 3) := by decide +kernel
theorem dX10_isWithin_10 : decode cX10_isWithin 10 = .ok (.iconst 1, 1) := by decide +kernel
theorem dX10_isWithin_11 : decode cX10_isWithin 11 = .ok (.goto 4, 3) := by decide +kernel
theorem dX10_isWithin_14 : decode cX10_isWithin 14 = .ok (.iconst 0, 1) := by decide +kernel
theorem dX10_isWithin_15 : decode cX10_isWithin 15 = .ok (.ireturn, 1) := by decide +kernel
theorem dX10_isPerson_0 : decode cX10_isPerson 0 = .ok (.iload_n 0, 1) := by decide +kernel
theorem dX10_isPerson_1 : decode cX10_isPerson 1 = .ok (.ifCond .lt 13, 3) := by decide +kernel
theorem dX10_isPerson_4 : decode cX10_isPerson 4 = .ok (.iload_n 0, 1) := by decide +kernel
theorem dX10_isPerson_5 : decode cX10_isPerson 5 = .ok (.bipush 10, 2) := by decide +kernel
theorem dX10_isPerson_7 : decode cX10_isPerson 7 = .ok (.if_icmp .ge 7, 3) := by decide +kernel
theorem dX10_isPerson_10 : decode cX10_isPerson 10 = .ok (.iconst 1, 1) := by decide +kernel
theorem dX10_isPerson_11 : decode cX10_isPerson 11 = .ok (.goto 4, 3) := by decide +kernel
theorem dX10_isPerson_14 : decode cX10_isPerson 14 = .ok (.iconst 0, 1) := by decide +kernel
theorem dX10_isPerson_15 : decode cX10_isPerson 15 = .ok (.ireturn, 1) := by decide +kernel
theorem dX10_isTown_0 : decode cX10_isTown 0 = .ok (.iload_n 0, 1) := by decide +kernel
theorem dX10_isTown_1 : decode cX10_isTown 1 = .ok (.ifCond .lt 13, 3) := by decide +kernel
theorem dX10_isTown_4 : decode cX10_isTown 4 = .ok (.iload_n 0, 1) := by decide +kernel
theorem dX10_isTown_5 : decode cX10_isTown 5 = .ok (.bipush 6, 2) := by decide +kernel
theorem dX10_isTown_7 : decode cX10_isTown 7 = .ok (.if_icmp .ge 7, 3) := by decide +kernel
theorem dX10_isTown_10 : decode cX10_isTown 10 = .ok (.iconst 1, 1) := by decide +kernel
theorem dX10_isTown_11 : decode cX10_isTown 11 = .ok (.goto 4, 3) := by decide +kernel
theorem dX10_isTown_14 : decode cX10_isTown 14 = .ok (.iconst 0, 1) := by decide +kernel
theorem dX10_isTown_15 : decode cX10_isTown 15 = .ok (.ireturn, 1) := by decide +kernel
theorem dX10_isSpan_0 : decode cX10_isSpan 0 = .ok (.iload_n 0, 1) := by decide +kernel
theorem dX10_isSpan_1 : decode cX10_isSpan 1 = .ok (.iconst 0, 1) := by decide +kernel
theorem dX10_isSpan_2 : decode cX10_isSpan 2 = .ok (.sipush 1999, 3) := by decide +kernel
theorem dX10_isSpan_5 : decode cX10_isSpan 5 = .ok (.invokestatic 76, 3) := by decide +kernel
theorem dX10_isSpan_8 : decode cX10_isSpan 8 = .ok (.ifCond .eq 18, 3) := by decide +kernel
theorem dX10_isSpan_11 : decode cX10_isSpan 11 = .ok (.iload_n 1, 1) := by decide +kernel
theorem dX10_isSpan_12 : decode cX10_isSpan 12 = .ok (.iload_n 0, 1) := by decide +kernel
theorem dX10_isSpan_13 : decode cX10_isSpan 13 = .ok (.sipush 1999, 3) := by decide +kernel
theorem dX10_isSpan_16 : decode cX10_isSpan 16 = .ok (.invokestatic 76, 3) := by decide +kernel
theorem dX10_isSpan_19 : decode cX10_isSpan 19 = .ok (.ifCond .eq 7, 3) := by decide +kernel
theorem dX10_isSpan_22 : decode cX10_isSpan 22 = .ok (.iconst 1, 1) := by decide +kernel
theorem dX10_isSpan_23 : decode cX10_isSpan 23 = .ok (.goto 4, 3) := by decide +kernel
theorem dX10_isSpan_26 : decode cX10_isSpan 26 = .ok (.iconst 0, 1) := by decide +kernel
theorem dX10_isSpan_27 : decode cX10_isSpan 27 = .ok (.ireturn, 1) := by decide +kernel
theorem dX10_isPart_0 : decode cX10_isPart 0 = .ok (.iload_n 0, 1) := by decide +kernel
theorem dX10_isPart_1 : decode cX10_isPart 1 = .ok (.iconst 0, 1) := by decide +kernel
theorem dX10_isPart_2 : decode cX10_isPart 2 = .ok (.iconst 1, 1) := by decide +kernel
theorem dX10_isPart_3 : decode cX10_isPart 3 = .ok (.invokestatic 76, 3) := by decide +kernel
theorem dX10_isPart_6 : decode cX10_isPart 6 = .ok (.ireturn, 1) := by decide +kernel
theorem dX10_isOdds_0 : decode cX10_isOdds 0 = .ok (.iload_n 0, 1) := by decide +kernel
theorem dX10_isOdds_1 : decode cX10_isOdds 1 = .ok (.iconst 0, 1) := by decide +kernel
theorem dX10_isOdds_2 : decode cX10_isOdds 2 = .ok (.bipush 9, 2) := by decide +kernel
theorem dX10_isOdds_4 : decode cX10_isOdds 4 = .ok (.invokestatic 76, 3) := by decide +kernel
theorem dX10_isOdds_7 : decode cX10_isOdds 7 = .ok (.ireturn, 1) := by decide +kernel
theorem dX10_isSetOf_0 : decode cX10_isSetOf 0 = .ok (.iload_n 0, 1) := by decide +kernel
theorem dX10_isSetOf_1 : decode cX10_isSetOf 1 = .ok (.iconst 0, 1) := by decide +kernel
theorem dX10_isSetOf_2 : decode cX10_isSetOf 2 = .ok (.iconst 1, 1) := by decide +kernel
theorem dX10_isSetOf_3 : decode cX10_isSetOf 3 = .ok (.iload_n 1, 1) := by decide +kernel
theorem dX10_isSetOf_4 : decode cX10_isSetOf 4 = .ok (.ishl, 1) := by decide +kernel
theorem dX10_isSetOf_5 : decode cX10_isSetOf 5 = .ok (.iconst 1, 1) := by decide +kernel
theorem dX10_isSetOf_6 : decode cX10_isSetOf 6 = .ok (.isub, 1) := by decide +kernel
theorem dX10_isSetOf_7 : decode cX10_isSetOf 7 = .ok (.invokestatic 76, 3) := by decide +kernel
theorem dX10_isSetOf_10 : decode cX10_isSetOf 10 = .ok (.ireturn, 1) := by decide +kernel
theorem dX10_arePinches_0 : decode cX10_arePinches 0 = .ok (.iload_n 0, 1) := by decide +kernel
theorem dX10_arePinches_1 : decode cX10_arePinches 1 = .ok (.iconst 1, 1) := by decide +kernel
theorem dX10_arePinches_2 : decode cX10_arePinches 2 = .ok (.iconst 3, 1) := by decide +kernel
theorem dX10_arePinches_3 : decode cX10_arePinches 3 = .ok (.invokestatic 76, 3) := by decide +kernel
theorem dX10_arePinches_6 : decode cX10_arePinches 6 = .ok (.ifCond .eq 17, 3) := by decide +kernel
theorem dX10_arePinches_9 : decode cX10_arePinches 9 = .ok (.iload_n 1, 1) := by decide +kernel
theorem dX10_arePinches_10 : decode cX10_arePinches 10 = .ok (.iconst 0, 1) := by decide +kernel
theorem dX10_arePinches_11 : decode cX10_arePinches 11 = .ok (.bipush 8, 2) := by decide +kernel
theorem dX10_arePinches_13 : decode cX10_arePinches 13 = .ok (.invokestatic 76, 3) := by decide +kernel
theorem dX10_arePinches_16 : decode cX10_arePinches 16 = .ok (.ifCond .eq 7, 3) := by decide +kernel
theorem dX10_arePinches_19 : decode cX10_arePinches 19 = .ok (.iconst 1, 1) := by decide +kernel
theorem dX10_arePinches_20 : decode cX10_arePinches 20 = .ok (.goto 4, 3) := by decide +kernel
theorem dX10_arePinches_23 : decode cX10_arePinches 23 = .ok (.iconst 0, 1) := by decide +kernel
theorem dX10_arePinches_24 : decode cX10_arePinches 24 = .ok (.ireturn, 1) := by decide +kernel
theorem dX10_isIn_0 : decode cX10_isIn 0 = .ok (.iload_n 0, 1) := by decide +kernel
theorem dX10_isIn_1 : decode cX10_isIn 1 = .ok (.iload_n 1, 1) := by decide +kernel
theorem dX10_isIn_2 : decode cX10_isIn 2 = .ok (.ishr, 1) := by decide +kernel
theorem dX10_isIn_3 : decode cX10_isIn 3 = .ok (.iconst 1, 1) := by decide +kernel
theorem dX10_isIn_4 : decode cX10_isIn 4 = .ok (.iand, 1) := by decide +kernel
theorem dX10_isIn_5 : decode cX10_isIn 5 = .ok (.ifCond .eq 7, 3) := by decide +kernel
theorem dX10_isIn_8 : decode cX10_isIn 8 = .ok (.iconst 1, 1) := by decide +kernel
theorem dX10_isIn_9 : decode cX10_isIn 9 = .ok (.goto 4, 3) := by decide +kernel
theorem dX10_isIn_12 : decode cX10_isIn 12 = .ok (.iconst 0, 1) := by decide +kernel
theorem dX10_isIn_13 : decode cX10_isIn 13 = .ok (.ireturn, 1) := by decide +kernel
theorem dX10_wordsOf_0 : decode cX10_wordsOf 0 = .ok (.iconst 0, 1) := by decide +kernel
theorem dX10_wordsOf_1 : decode cX10_wordsOf 1 = .ok (.istore_n 3, 1) := by decide +kernel
theorem dX10_wordsOf_2 : decode cX10_wordsOf 2 = .ok (.iconst 1, 1) := by decide +kernel
theorem dX10_wordsOf_3 : decode cX10_wordsOf 3 = .ok (.istore 4, 2) := by decide +kernel
theorem dX10_wordsOf_5 : decode cX10_wordsOf 5 = .ok (.iconst 0, 1) := by decide +kernel
theorem dX10_wordsOf_6 : decode cX10_wordsOf 6 = .ok (.istore 5, 2) := by decide +kernel
theorem dX10_wordsOf_8 : decode cX10_wordsOf 8 = .ok (.iload 5, 2) := by decide +kernel
theorem dX10_wordsOf_10 : decode cX10_wordsOf 10 = .ok (.iload_n 2, 1) := by decide +kernel
theorem dX10_wordsOf_11 : decode cX10_wordsOf 11 = .ok (.if_icmp .gt 36, 3) := by decide +kernel
theorem dX10_wordsOf_14 : decode cX10_wordsOf 14 = .ok (.iload 5, 2) := by decide +kernel
theorem dX10_wordsOf_16 : decode cX10_wordsOf 16 = .ok (.iload_n 0, 1) := by decide +kernel
theorem dX10_wordsOf_17 : decode cX10_wordsOf 17 = .ok (.if_icmp .gt 30, 3) := by decide +kernel
theorem dX10_wordsOf_20 : decode cX10_wordsOf 20 = .ok (.iload_n 3, 1) := by decide +kernel
theorem dX10_wordsOf_21 : decode cX10_wordsOf 21 = .ok (.iload 4, 2) := by decide +kernel
theorem dX10_wordsOf_23 : decode cX10_wordsOf 23 = .ok (.iadd, 1) := by decide +kernel
theorem dX10_wordsOf_24 : decode cX10_wordsOf 24 = .ok (.istore_n 3, 1) := by decide +kernel
theorem dX10_wordsOf_25 : decode cX10_wordsOf 25 = .ok (.iload 4, 2) := by decide +kernel
theorem dX10_wordsOf_27 : decode cX10_wordsOf 27 = .ok (.iload_n 0, 1) := by decide +kernel
theorem dX10_wordsOf_28 : decode cX10_wordsOf 28 = .ok (.iload 5, 2) := by decide +kernel
theorem dX10_wordsOf_30 : decode cX10_wordsOf 30 = .ok (.isub, 1) := by decide +kernel
theorem dX10_wordsOf_31 : decode cX10_wordsOf 31 = .ok (.imul, 1) := by decide +kernel
theorem dX10_wordsOf_32 : decode cX10_wordsOf 32 = .ok (.iload_n 1, 1) := by decide +kernel
theorem dX10_wordsOf_33 : decode cX10_wordsOf 33 = .ok (.imul, 1) := by decide +kernel
theorem dX10_wordsOf_34 : decode cX10_wordsOf 34 = .ok (.iload 5, 2) := by decide +kernel
theorem dX10_wordsOf_36 : decode cX10_wordsOf 36 = .ok (.iconst 1, 1) := by decide +kernel
theorem dX10_wordsOf_37 : decode cX10_wordsOf 37 = .ok (.iadd, 1) := by decide +kernel
theorem dX10_wordsOf_38 : decode cX10_wordsOf 38 = .ok (.idiv, 1) := by decide +kernel
theorem dX10_wordsOf_39 : decode cX10_wordsOf 39 = .ok (.istore 4, 2) := by decide +kernel
theorem dX10_wordsOf_41 : decode cX10_wordsOf 41 = .ok (.iinc 5 1, 3) := by decide +kernel
theorem dX10_wordsOf_44 : decode cX10_wordsOf 44 = .ok (.goto (-36), 3) := by decide +kernel
theorem dX10_wordsOf_47 : decode cX10_wordsOf 47 = .ok (.iload_n 3, 1) := by decide +kernel
theorem dX10_wordsOf_48 : decode cX10_wordsOf 48 = .ok (.ireturn, 1) := by decide +kernel
theorem dX10_power_0 : decode cX10_power 0 = .ok (.lconst 1, 1) := by decide +kernel
theorem dX10_power_1 : decode cX10_power 1 = .ok (.lstore_n 3, 1) := by decide +kernel
theorem dX10_power_2 : decode cX10_power 2 = .ok (.iconst 0, 1) := by decide +kernel
theorem dX10_power_3 : decode cX10_power 3 = .ok (.istore 5, 2) := by decide +kernel
theorem dX10_power_5 : decode cX10_power 5 = .ok (.iload 5, 2) := by decide +kernel
theorem dX10_power_7 : decode cX10_power 7 = .ok (.iload_n 2, 1) := by decide +kernel
theorem dX10_power_8 : decode cX10_power 8 = .ok (.if_icmp .ge 13, 3) := by decide +kernel
theorem dX10_power_11 : decode cX10_power 11 = .ok (.lload_n 3, 1) := by decide +kernel
theorem dX10_power_12 : decode cX10_power 12 = .ok (.lload_n 0, 1) := by decide +kernel
theorem dX10_power_13 : decode cX10_power 13 = .ok (.lmul, 1) := by decide +kernel
theorem dX10_power_14 : decode cX10_power 14 = .ok (.lstore_n 3, 1) := by decide +kernel
theorem dX10_power_15 : decode cX10_power 15 = .ok (.iinc 5 1, 3) := by decide +kernel
theorem dX10_power_18 : decode cX10_power 18 = .ok (.goto (-13), 3) := by decide +kernel
theorem dX10_power_21 : decode cX10_power 21 = .ok (.lload_n 3, 1) := by decide +kernel
theorem dX10_power_22 : decode cX10_power 22 = .ok (.lreturn, 1) := by decide +kernel
theorem dX10_inLowestTerms_0 : decode cX10_inLowestTerms 0 = .ok (.lload_n 0, 1) := by decide +kernel
theorem dX10_inLowestTerms_1 : decode cX10_inLowestTerms 1 = .ok (.lload_n 2, 1) := by decide +kernel
theorem dX10_inLowestTerms_2 : decode cX10_inLowestTerms 2 = .ok (.invokestatic 297, 3) := by decide +kernel
theorem dX10_inLowestTerms_5 : decode cX10_inLowestTerms 5 = .ok (.lstore 5, 2) := by decide +kernel
theorem dX10_inLowestTerms_7 : decode cX10_inLowestTerms 7 = .ok (.iload 4, 2) := by decide +kernel
theorem dX10_inLowestTerms_9 : decode cX10_inLowestTerms 9 = .ok (.ifCond .ne 7, 3) := by decide +kernel
theorem dX10_inLowestTerms_12 : decode cX10_inLowestTerms 12 = .ok (.lload_n 0, 1) := by decide +kernel
theorem dX10_inLowestTerms_13 : decode cX10_inLowestTerms 13 = .ok (.goto 4, 3) := by decide +kernel
theorem dX10_inLowestTerms_16 : decode cX10_inLowestTerms 16 = .ok (.lload_n 2, 1) := by decide +kernel
theorem dX10_inLowestTerms_17 : decode cX10_inLowestTerms 17 = .ok (.lstore 7, 2) := by decide +kernel
theorem dX10_inLowestTerms_19 : decode cX10_inLowestTerms 19 = .ok (.lload 5, 2) := by decide +kernel
theorem dX10_inLowestTerms_21 : decode cX10_inLowestTerms 21 = .ok (.lconst 0, 1) := by decide +kernel
theorem dX10_inLowestTerms_22 : decode cX10_inLowestTerms 22 = .ok (.lcmp, 1) := by decide +kernel
theorem dX10_inLowestTerms_23 : decode cX10_inLowestTerms 23 = .ok (.ifCond .ne 8, 3) := by decide +kernel
theorem dX10_inLowestTerms_26 : decode cX10_inLowestTerms 26 = .ok (.lload 7, 2) := by decide +kernel
theorem dX10_inLowestTerms_28 : decode cX10_inLowestTerms 28 = .ok (.goto 8, 3) := by decide +kernel
theorem dX10_inLowestTerms_31 : decode cX10_inLowestTerms 31 = .ok (.lload 7, 2) := by decide +kernel
theorem dX10_inLowestTerms_33 : decode cX10_inLowestTerms 33 = .ok (.lload 5, 2) := by decide +kernel
theorem dX10_inLowestTerms_35 : decode cX10_inLowestTerms 35 = .ok (.ldiv, 1) := by decide +kernel
theorem dX10_inLowestTerms_36 : decode cX10_inLowestTerms 36 = .ok (.lreturn, 1) := by decide +kernel
theorem dX10_commonDivisor_0 : decode cX10_commonDivisor 0 = .ok (.lload_n 0, 1) := by decide +kernel
theorem dX10_commonDivisor_1 : decode cX10_commonDivisor 1 = .ok (.lstore 4, 2) := by decide +kernel
theorem dX10_commonDivisor_3 : decode cX10_commonDivisor 3 = .ok (.lload_n 2, 1) := by decide +kernel
theorem dX10_commonDivisor_4 : decode cX10_commonDivisor 4 = .ok (.lstore 6, 2) := by decide +kernel
theorem dX10_commonDivisor_6 : decode cX10_commonDivisor 6 = .ok (.iconst 0, 1) := by decide +kernel
theorem dX10_commonDivisor_7 : decode cX10_commonDivisor 7 = .ok (.istore 8, 2) := by decide +kernel
theorem dX10_commonDivisor_9 : decode cX10_commonDivisor 9 = .ok (.iload 8, 2) := by decide +kernel
theorem dX10_commonDivisor_11 : decode cX10_commonDivisor 11 = .ok (.bipush 100, 2) := by decide +kernel
theorem dX10_commonDivisor_13 : decode cX10_commonDivisor 13 = .ok (.if_icmp .ge 31, 3) := by decide +kernel
theorem dX10_commonDivisor_16 : decode cX10_commonDivisor 16 = .ok (.lload 6, 2) := by decide +kernel
theorem dX10_commonDivisor_18 : decode cX10_commonDivisor 18 = .ok (.lconst 0, 1) := by decide +kernel
theorem dX10_commonDivisor_19 : decode cX10_commonDivisor 19 = .ok (.lcmp, 1) := by decide +kernel
theorem dX10_commonDivisor_20 : decode cX10_commonDivisor 20 = .ok (.ifCond .eq 24, 3) := by decide +kernel
theorem dX10_commonDivisor_23 : decode cX10_commonDivisor 23 = .ok (.lload 4, 2) := by decide +kernel
theorem dX10_commonDivisor_25 : decode cX10_commonDivisor 25 = .ok (.lload 6, 2) := by decide +kernel
theorem dX10_commonDivisor_27 : decode cX10_commonDivisor 27 = .ok (.lrem, 1) := by decide +kernel
theorem dX10_commonDivisor_28 : decode cX10_commonDivisor 28 = .ok (.lstore 9, 2) := by decide +kernel
theorem dX10_commonDivisor_30 : decode cX10_commonDivisor 30 = .ok (.lload 6, 2) := by decide +kernel
theorem dX10_commonDivisor_32 : decode cX10_commonDivisor 32 = .ok (.lstore 4, 2) := by decide +kernel
theorem dX10_commonDivisor_34 : decode cX10_commonDivisor 34 = .ok (.lload 9, 2) := by decide +kernel
theorem dX10_commonDivisor_36 : decode cX10_commonDivisor 36 = .ok (.lstore 6, 2) := by decide +kernel
theorem dX10_commonDivisor_38 : decode cX10_commonDivisor 38 = .ok (.iinc 8 1, 3) := by decide +kernel
theorem dX10_commonDivisor_41 : decode cX10_commonDivisor 41 = .ok (.goto (-32), 3) := by decide +kernel
theorem dX10_commonDivisor_44 : decode cX10_commonDivisor 44 = .ok (.lload 4, 2) := by decide +kernel
theorem dX10_commonDivisor_46 : decode cX10_commonDivisor 46 = .ok (.lreturn, 1) := by decide +kernel
theorem dX11_init_0 : decode cX11_init 0 = .ok (.aload_n 0, 1) := by decide +kernel
theorem dX11_init_1 : decode cX11_init 1 = .ok (.invokespecial 1, 3) := by decide +kernel
theorem dX11_init_4 : decode cX11_init 4 = .ok (.aload_n 0, 1) := by decide +kernel
theorem dX11_init_5 : decode cX11_init 5 = .ok (.bipush 36, 2) := by decide +kernel
theorem dX11_init_7 : decode cX11_init 7 = .ok (.newarray .int, 2) := by decide +kernel
theorem dX11_init_9 : decode cX11_init 9 = .ok (.putfield 7, 3) := by decide +kernel
theorem dX11_init_12 : decode cX11_init 12 = .ok (.aload_n 0, 1) := by decide +kernel
theorem dX11_init_13 : decode cX11_init 13 = .ok (.bipush 10, 2) := by decide +kernel
theorem dX11_init_15 : decode cX11_init 15 = .ok (.newarray .int, 2) := by decide +kernel
theorem dX11_init_17 : decode cX11_init 17 = .ok (.putfield 13, 3) := by decide +kernel
theorem dX11_init_20 : decode cX11_init 20 = .ok (.aload_n 0, 1) := by decide +kernel
theorem dX11_init_21 : decode cX11_init 21 = .ok (.bipush 32, 2) := by decide +kernel
theorem dX11_init_23 : decode cX11_init 23 = .ok (.newarray .int, 2) := by decide +kernel
theorem dX11_init_25 : decode cX11_init 25 = .ok (.putfield 16, 3) := by decide +kernel
theorem dX11_init_28 : decode cX11_init 28 = .ok (.aload_n 0, 1) := by decide +kernel
theorem dX11_init_29 : decode cX11_init 29 = .ok (.bipush 35, 2) := by decide +kernel
theorem dX11_init_31 : decode cX11_init 31 = .ok (.newarray .int, 2) := by decide +kernel
theorem dX11_init_33 : decode cX11_init 33 = .ok (.putfield 19, 3) := by decide +kernel
theorem dX11_init_36 : decode cX11_init 36 = .ok (.aload_n 0, 1) := by decide +kernel
theorem dX11_init_37 : decode cX11_init 37 = .ok (.bipush 35, 2) := by decide +kernel
theorem dX11_init_39 : decode cX11_init 39 = .ok (.newarray .int, 2) := by decide +kernel
theorem dX11_init_41 : decode cX11_init 41 = .ok (.putfield 22, 3) := by decide +kernel
theorem dX11_init_44 : decode cX11_init 44 = .ok (.aload_n 0, 1) := by decide +kernel
theorem dX11_init_45 : decode cX11_init 45 = .ok (.bipush 10, 2) := by decide +kernel
theorem dX11_init_47 : decode cX11_init 47 = .ok (.newarray .int, 2) := by decide +kernel
theorem dX11_init_49 : decode cX11_init 49 = .ok (.putfield 25, 3) := by decide +kernel
theorem dX11_init_52 : decode cX11_init 52 = .ok (.aload_n 0, 1) := by decide +kernel
theorem dX11_init_53 : decode cX11_init 53 = .ok (.bipush 24, 2) := by decide +kernel
theorem dX11_init_55 : decode cX11_init 55 = .ok (.newarray .int, 2) := by decide +kernel
theorem dX11_init_57 : decode cX11_init 57 = .ok (.putfield 28, 3) := by decide +kernel
theorem dX11_init_60 : decode cX11_init 60 = .ok (.aload_n 0, 1) := by decide +kernel
theorem dX11_init_61 : decode cX11_init 61 = .ok (.bipush 36, 2) := by decide +kernel
theorem dX11_init_63 : decode cX11_init 63 = .ok (.newarray .int, 2) := by decide +kernel
theorem dX11_init_65 : decode cX11_init 65 = .ok (.putfield 31, 3) := by decide +kernel
theorem dX11_init_68 : decode cX11_init 68 = .ok (.aload_n 0, 1) := by decide +kernel
theorem dX11_init_69 : decode cX11_init 69 = .ok (.bipush 16, 2) := by decide +kernel
theorem dX11_init_71 : decode cX11_init 71 = .ok (.newarray .int, 2) := by decide +kernel
theorem dX11_init_73 : decode cX11_init 73 = .ok (.putfield 34, 3) := by decide +kernel
theorem dX11_init_76 : decode cX11_init 76 = .ok (.aload_n 0, 1) := by decide +kernel
theorem dX11_init_77 : decode cX11_init 77 = .ok (.iconst 4, 1) := by decide +kernel
theorem dX11_init_78 : decode cX11_init 78 = .ok (.newarray .int, 2) := by decide +kernel
theorem dX11_init_80 : decode cX11_init 80 = .ok (.putfield 37, 3) := by decide +kernel
theorem dX11_init_83 : decode cX11_init 83 = .ok (.aload_n 0, 1) := by decide +kernel
theorem dX11_init_84 : decode cX11_init 84 = .ok (.bipush 16, 2) := by decide +kernel
theorem dX11_init_86 : decode cX11_init 86 = .ok (.newarray .int, 2) := by decide +kernel
theorem dX11_init_88 : decode cX11_init 88 = .ok (.putfield 40, 3) := by decide +kernel
theorem dX11_init_91 : decode cX11_init 91 = .ok (.aload_n 0, 1) := by decide +kernel
theorem dX11_init_92 : decode cX11_init 92 = .ok (.bipush 8, 2) := by decide +kernel
theorem dX11_init_94 : decode cX11_init 94 = .ok (.newarray .int, 2) := by decide +kernel
theorem dX11_init_96 : decode cX11_init 96 = .ok (.putfield 43, 3) := by decide +kernel
theorem dX11_init_99 : decode cX11_init 99 = .ok (.aload_n 0, 1) := by decide +kernel
theorem dX11_init_100 : decode cX11_init 100 = .ok (.bipush 8, 2) := by decide +kernel
theorem dX11_init_102 : decode cX11_init 102 = .ok (.newarray .int, 2) := by decide +kernel
theorem dX11_init_104 : decode cX11_init 104 = .ok (.putfield 46, 3) := by decide +kernel
theorem dX11_init_107 : decode cX11_init 107 = .ok (.aload_n 0, 1) := by decide +kernel
theorem dX11_init_108 : decode cX11_init 108 = .ok (.bipush 24, 2) := by decide +kernel
theorem dX11_init_110 : decode cX11_init 110 = .ok (.newarray .int, 2) := by decide +kernel
theorem dX11_init_112 : decode cX11_init 112 = .ok (.putfield 49, 3) := by decide +kernel
theorem dX11_init_115 : decode cX11_init 115 = .ok (.aload_n 0, 1) := by decide +kernel
theorem dX11_init_116 : decode cX11_init 116 = .ok (.bipush 10, 2) := by decide +kernel
theorem dX11_init_118 : decode cX11_init 118 = .ok (.newarray .int, 2) := by decide +kernel
theorem dX11_init_120 : decode cX11_init 120 = .ok (.putfield 52, 3) := by decide +kernel
theorem dX11_init_123 : decode cX11_init 123 = .ok (.aload_n 0, 1) := by decide +kernel
theorem dX11_init_124 : decode cX11_init 124 = .ok (.iconst 4, 1) := by decide +kernel
theorem dX11_init_125 : decode cX11_init 125 = .ok (.newarray .int, 2) := by decide +kernel
theorem dX11_init_127 : decode cX11_init 127 = .ok (.putfield 55, 3) := by decide +kernel
theorem dX11_init_130 : decode cX11_init 130 = .ok (.aload_n 0, 1) := by decide +kernel
theorem dX11_init_131 : decode cX11_init 131 = .ok (.bipush 16, 2) := by decide +kernel
theorem dX11_init_133 : decode cX11_init 133 = .ok (.newarray .int, 2) := by decide +kernel
theorem dX11_init_135 : decode cX11_init 135 = .ok (.putfield 58, 3) := by decide +kernel
theorem dX11_init_138 : decode cX11_init 138 = .ok (.aload_n 0, 1) := by decide +kernel
theorem dX11_init_139 : decode cX11_init 139 = .ok (.iconst (-1), 1) := by decide +kernel
theorem dX11_init_140 : decode cX11_init 140 = .ok (.putfield 61, 3) := by decide +kernel
theorem dX11_init_143 : decode cX11_init 143 = .ok (.aload_n 0, 1) := by decide +kernel
theorem dX11_init_144 : decode cX11_init 144 = .ok (.iconst 4, 1) := by decide +kernel
theorem dX11_init_145 : decode cX11_init 145 = .ok (.putfield 65, 3) := by decide +kernel
theorem dX11_init_148 : decode cX11_init 148 = .ok (.iconst 0, 1) := by decide +kernel
theorem dX11_init_149 : decode cX11_init 149 = .ok (.istore_n 1, 1) := by decide +kernel
theorem dX11_init_150 : decode cX11_init 150 = .ok (.iload_n 1, 1) := by decide +kernel
theorem dX11_init_151 : decode cX11_init 151 = .ok (.bipush 10, 2) := by decide +kernel
theorem dX11_init_153 : decode cX11_init 153 = .ok (.if_icmp .ge 16, 3) := by decide +kernel
theorem dX11_init_156 : decode cX11_init 156 = .ok (.aload_n 0, 1) := by decide +kernel
theorem dX11_init_157 : decode cX11_init 157 = .ok (.getfield 25, 3) := by decide +kernel
theorem dX11_init_160 : decode cX11_init 160 = .ok (.iload_n 1, 1) := by decide +kernel
theorem dX11_init_161 : decode cX11_init 161 = .ok (.iconst (-1), 1) := by decide +kernel
theorem dX11_init_162 : decode cX11_init 162 = .ok (.iastore, 1) := by decide +kernel
theorem dX11_init_163 : decode cX11_init 163 = .ok (.iinc 1 1, 3) := by decide +kernel
theorem dX11_init_166 : decode cX11_init 166 = .ok (.goto (-16), 3) := by decide +kernel
theorem dX11_init_169 : decode cX11_init 169 = .ok (.return_, 1) := by decide +kernel
theorem dX11_in_0 : decode cX11_in 0 = .ok (.lload_n 0, 1) := by decide +kernel
theorem dX11_in_1 : decode cX11_in 1 = .ok (.lload_n 2, 1) := by decide +kernel
theorem dX11_in_2 : decode cX11_in 2 = .ok (.lcmp, 1) := by decide +kernel
theorem dX11_in_3 : decode cX11_in 3 = .ok (.ifCond .lt 14, 3) := by decide +kernel
theorem dX11_in_6 : decode cX11_in 6 = .ok (.lload_n 0, 1) := by decide +kernel
theorem dX11_in_7 : decode cX11_in 7 = .ok (.lload 4, 2) := by decide +kernel
theorem dX11_in_9 : decode cX11_in 9 = .ok (.lcmp, 1) := by decide +kernel
theorem dX11_in_10 : decode cX11_in 10 = .ok (.ifCond .gt 7, 3) := by decide +kernel
theorem dX11_in_13 : decode cX11_in 13 = .ok (.iconst 1, 1) := by decide +kernel
theorem dX11_in_14 : decode cX11_in 14 = .ok (.goto 4, 3) := by decide +kernel
theorem dX11_in_17 : decode cX11_in 17 = .ok (.iconst 0, 1) := by decide +kernel
theorem dX11_in_18 : decode cX11_in 18 = .ok (.ireturn, 1) := by decide +kernel
theorem dX11_isTown_0 : decode cX11_isTown 0 = .ok (.iload_n 0, 1) := by decide +kernel
theorem dX11_isTown_1 : decode cX11_isTown 1 = .ok (.i2l, 1) := by decide +kernel
theorem dX11_isTown_2 : decode cX11_isTown 2 = .ok (.lconst 0, 1) := by decide +kernel
theorem dX11_isTown_3 : decode cX11_isTown 3 = .ok (.ldc2_w 68, 3) := by decide +kernel
theorem dX11_isTown_6 : decode cX11_isTown 6 = .ok (.invokestatic 70, 3) := by decide +kernel
theorem dX11_isTown_9 : decode cX11_isTown 9 = .ok (.ireturn, 1) := by decide +kernel
theorem dX11_isPerson_0 : decode cX11_isPerson 0 = .ok (.iload_n 0, 1) := by decide +kernel
theorem dX11_isPerson_1 : decode cX11_isPerson 1 = .ok (.i2l, 1) := by decide +kernel
theorem dX11_isPerson_2 : decode cX11_isPerson 2 = .ok (.lconst 0, 1) := by decide +kernel
theorem dX11_isPerson_3 : decode cX11_isPerson 3 = .ok (.ldc2_w 74, 3) := by decide +kernel
theorem dX11_isPerson_6 : decode cX11_isPerson 6 = .ok (.invokestatic 70, 3) := by decide +kernel
theorem dX11_isPerson_9 : decode cX11_isPerson 9 = .ok (.ireturn, 1) := by decide +kernel
theorem dX11_road_0 : decode cX11_road 0 = .ok (.iload_n 1, 1) := by decide +kernel
theorem dX11_road_1 : decode cX11_road 1 = .ok (.invokestatic 76, 3) := by decide +kernel
theorem dX11_road_4 : decode cX11_road 4 = .ok (.ifCond .eq 15, 3) := by decide +kernel
theorem dX11_road_7 : decode cX11_road 7 = .ok (.iload_n 2, 1) := by decide +kernel
theorem dX11_road_8 : decode cX11_road 8 = .ok (.invokestatic 76, 3) := by decide +kernel
theorem dX11_road_11 : decode cX11_road 11 = .ok (.ifCond .eq 8, 3) := by decide +kernel
theorem dX11_road_14 : decode cX11_road 14 = .ok (.iload_n 1, 1) := by decide +kernel
theorem dX11_road_15 : decode cX11_road 15 = .ok (.iload_n 2, 1) := by decide +kernel
theorem dX11_road_16 : decode cX11_road 16 = .ok (.if_icmp .ne 6, 3) := by decide +kernel
theorem dX11_road_19 : decode cX11_road 19 = .ok (.bipush (-101), 2) := by decide +kernel
theorem dX11_road_21 : decode cX11_road 21 = .ok (.ireturn, 1) := by decide +kernel
theorem dX11_road_22 : decode cX11_road 22 = .ok (.iload_n 3, 1) := by decide +kernel
theorem dX11_road_23 : decode cX11_road 23 = .ok (.i2l, 1) := by decide +kernel
theorem dX11_road_24 : decode cX11_road 24 = .ok (.lconst 0, 1) := by decide +kernel
theorem dX11_road_25 : decode cX11_road 25 = .ok (.ldc2_w 80, 3) := by decide +kernel
theorem dX11_road_28 : decode cX11_road 28 = .ok (.invokestatic 70, 3) := by decide +kernel
theorem dX11_road_31 : decode cX11_road 31 = .ok (.ifCond .ne 6, 3) := by decide +kernel
theorem dX11_road_34 : decode cX11_road 34 = .ok (.bipush (-102), 2) := by decide +kernel
theorem dX11_road_36 : decode cX11_road 36 = .ok (.ireturn, 1) := by decide +kernel
theorem dX11_road_37 : decode cX11_road 37 = .ok (.aload_n 0, 1) := by decide +kernel
theorem dX11_road_38 : decode cX11_road 38 = .ok (.getfield 7, 3) := by decide +kernel
theorem dX11_road_41 : decode cX11_road 41 = .ok (.bipush 6, 2) := by decide +kernel
theorem dX11_road_43 : decode cX11_road 43 = .ok (.iload_n 1, 1) := by decide +kernel
theorem dX11_road_44 : decode cX11_road 44 = .ok (.imul, 1) := by decide +kernel
theorem dX11_road_45 : decode cX11_road 45 = .ok (.iload_n 2, 1) := by decide +kernel
theorem dX11_road_46 : decode cX11_road 46 = .ok (.iadd, 1) := by decide +kernel
theorem dX11_road_47 : decode cX11_road 47 = .ok (.iaload, 1) := by decide +kernel
theorem dX11_road_48 : decode cX11_road 48 = .ok (.istore 4, 2) := by decide +kernel
theorem dX11_road_50 : decode cX11_road 50 = .ok (.aload_n 0, 1) := by decide +kernel
theorem dX11_road_51 : decode cX11_road 51 = .ok (.getfield 7, 3) := by decide +kernel
theorem dX11_road_54 : decode cX11_road 54 = .ok (.bipush 6, 2) := by decide +kernel
theorem dX11_road_56 : decode cX11_road 56 = .ok (.iload_n 1, 1) := by decide +kernel
theorem dX11_road_57 : decode cX11_road 57 = .ok (.imul, 1) := by decide +kernel
theorem dX11_road_58 : decode cX11_road 58 = .ok (.iload_n 2, 1) := by decide +kernel
theorem dX11_road_59 : decode cX11_road 59 = .ok (.iadd, 1) := by decide +kernel
theorem dX11_road_60 : decode cX11_road 60 = .ok (.iload_n 3, 1) := by decide +kernel
theorem dX11_road_61 : decode cX11_road 61 = .ok (.iastore, 1) := by decide +kernel
theorem dX11_road_62 : decode cX11_road 62 = .ok (.aload_n 0, 1) := by decide +kernel
theorem dX11_road_63 : decode cX11_road 63 = .ok (.getfield 7, 3) := by decide +kernel
theorem dX11_road_66 : decode cX11_road 66 = .ok (.bipush 6, 2) := by decide +kernel
theorem dX11_road_68 : decode cX11_road 68 = .ok (.iload_n 2, 1) := by decide +kernel
theorem dX11_road_69 : decode cX11_road 69 = .ok (.imul, 1) := by decide +kernel
theorem dX11_road_70 : decode cX11_road 70 = .ok (.iload_n 1, 1) := by decide +kernel
theorem dX11_road_71 : decode cX11_road 71 = .ok (.iadd, 1) := by decide +kernel
theorem dX11_road_72 : decode cX11_road 72 = .ok (.iload_n 3, 1) := by decide +kernel
theorem dX11_road_73 : decode cX11_road 73 = .ok (.iastore, 1) := by decide +kernel
theorem dX11_road_74 : decode cX11_road 74 = .ok (.iload 4, 2) := by decide +kernel
theorem dX11_road_76 : decode cX11_road 76 = .ok (.ireturn, 1) := by decide +kernel
theorem dX11_town_0 : decode cX11_town 0 = .ok (.iload_n 1, 1) := by decide +kernel
theorem dX11_town_1 : decode cX11_town 1 = .ok (.invokestatic 82, 3) := by decide +kernel
theorem dX11_town_4 : decode cX11_town 4 = .ok (.ifCond .eq 10, 3) := by decide +kernel
theorem dX11_town_7 : decode cX11_town 7 = .ok (.iload_n 2, 1) := by decide +kernel
theorem dX11_town_8 : decode cX11_town 8 = .ok (.invokestatic 76, 3) := by decide +kernel
theorem dX11_town_11 : decode cX11_town 11 = .ok (.ifCond .ne 6, 3) := by decide +kernel
theorem dX11_town_14 : decode cX11_town 14 = .ok (.bipush (-101), 2) := by decide +kernel
theorem dX11_town_16 : decode cX11_town 16 = .ok (.ireturn, 1) := by decide +kernel
theorem dX11_town_17 : decode cX11_town 17 = .ok (.aload_n 0, 1) := by decide +kernel
theorem dX11_town_18 : decode cX11_town 18 = .ok (.getfield 13, 3) := by decide +kernel
theorem dX11_town_21 : decode cX11_town 21 = .ok (.iload_n 1, 1) := by decide +kernel
theorem dX11_town_22 : decode cX11_town 22 = .ok (.iaload, 1) := by decide +kernel
theorem dX11_town_23 : decode cX11_town 23 = .ok (.istore_n 3, 1) := by decide +kernel
theorem dX11_town_24 : decode cX11_town 24 = .ok (.aload_n 0, 1) := by decide +kernel
theorem dX11_town_25 : decode cX11_town 25 = .ok (.getfield 13, 3) := by decide +kernel
theorem dX11_town_28 : decode cX11_town 28 = .ok (.iload_n 1, 1) := by decide +kernel
theorem dX11_town_29 : decode cX11_town 29 = .ok (.iload_n 2, 1) := by decide +kernel
theorem dX11_town_30 : decode cX11_town 30 = .ok (.iastore, 1) := by decide +kernel
theorem dX11_town_31 : decode cX11_town 31 = .ok (.iload_n 3, 1) := by decide +kernel
theorem dX11_town_32 : decode cX11_town 32 = .ok (.ireturn, 1) := by decide +kernel
theorem dX11_letters_0 : decode cX11_letters 0 = .ok (.iconst 0, 1) := by decide +kernel
theorem dX11_letters_1 : decode cX11_letters 1 = .ok (.istore_n 3, 1) := by decide +kernel
theorem dX11_letters_2 : decode cX11_letters 2 = .ok (.iconst 1, 1) := by decide +kernel
theorem dX11_letters_3 : decode cX11_letters 3 = .ok (.istore 4, 2) := by decide +kernel
theorem dX11_letters_5 : decode cX11_letters 5 = .ok (.lload_n 1, 1) := by decide +kernel
theorem dX11_letters_6 : decode cX11_letters 6 = .ok (.lstore 5, 2) := by decide +kernel
theorem dX11_letters_8 : decode cX11_letters 8 = .ok (.iconst 0, 1) := by decide +kernel
theorem dX11_letters_9 : decode cX11_letters 9 = .ok (.istore 7, 2) := by decide +kernel
theorem dX11_letters_11 : decode cX11_letters 11 = .ok (.iload 7, 2) := by decide +kernel
theorem dX11_letters_13 : decode cX11_letters 13 = .ok (.bipush 8, 2) := by decide +kernel
theorem dX11_letters_15 : decode cX11_letters 15 = .ok (.if_icmp .ge 68, 3) := by decide +kernel
theorem dX11_letters_18 : decode cX11_letters 18 = .ok (.lload 5, 2) := by decide +kernel
theorem dX11_letters_20 : decode cX11_letters 20 = .ok (.ldc2_w 85, 3) := by decide +kernel
theorem dX11_letters_23 : decode cX11_letters 23 = .ok (.land, 1) := by decide +kernel
theorem dX11_letters_24 : decode cX11_letters 24 = .ok (.l2i, 1) := by decide +kernel
theorem dX11_letters_25 : decode cX11_letters 25 = .ok (.istore 8, 2) := by decide +kernel
theorem dX11_letters_27 : decode cX11_letters 27 = .ok (.lload 5, 2) := by decide +kernel
theorem dX11_letters_29 : decode cX11_letters 29 = .ok (.bipush 8, 2) := by decide +kernel
theorem dX11_letters_31 : decode cX11_letters 31 = .ok (.lushr, 1) := by decide +kernel
theorem dX11_letters_32 : decode cX11_letters 32 = .ok (.lstore 5, 2) := by decide +kernel
theorem dX11_letters_34 : decode cX11_letters 34 = .ok (.iload 4, 2) := by decide +kernel
theorem dX11_letters_36 : decode cX11_letters 36 = .ok (.ifCond .eq 25, 3) := by decide +kernel
theorem dX11_letters_39 : decode cX11_letters 39 = .ok (.iload 8, 2) := by decide +kernel
theorem dX11_letters_41 : decode cX11_letters 41 = .ok (.bipush 126, 2) := by decide +kernel
theorem dX11_letters_43 : decode cX11_letters 43 = .ok (.if_icmp .gt 18, 3) := by decide +kernel
theorem dX11_letters_46 : decode cX11_letters 46 = .ok (.iload 8, 2) := by decide +kernel
theorem dX11_letters_48 : decode cX11_letters 48 = .ok (.ifCond .eq 9, 3) := by decide +kernel
theorem dX11_letters_51 : decode cX11_letters 51 = .ok (.iload_n 3, 1) := by decide +kernel
theorem dX11_letters_52 : decode cX11_letters 52 = .ok (.iload 7, 2) := by decide +kernel
theorem dX11_letters_54 : decode cX11_letters 54 = .ok (.if_icmp .ne 7, 3) := by decide +kernel
theorem dX11_letters_57 : decode cX11_letters 57 = .ok (.iconst 1, 1) := by decide +kernel
theorem dX11_letters_58 : decode cX11_letters 58 = .ok (.goto 4, 3) := by decide +kernel
theorem dX11_letters_61 : decode cX11_letters 61 = .ok (.iconst 0, 1) := by decide +kernel
theorem dX11_letters_62 : decode cX11_letters 62 = .ok (.istore 4, 2) := by decide +kernel
theorem dX11_letters_64 : decode cX11_letters 64 = .ok (.iload_n 3, 1) := by decide +kernel
theorem dX11_letters_65 : decode cX11_letters 65 = .ok (.iload 8, 2) := by decide +kernel
theorem dX11_letters_67 : decode cX11_letters 67 = .ok (.ifCond .le 7, 3) := by decide +kernel
theorem dX11_letters_70 : decode cX11_letters 70 = .ok (.iconst 1, 1) := by decide +kernel
theorem dX11_letters_71 : decode cX11_letters 71 = .ok (.goto 4, 3) := by decide +kernel
theorem dX11_letters_74 : decode cX11_letters 74 = .ok (.iconst 0, 1) := by decide +kernel
theorem dX11_letters_75 : decode cX11_letters 75 = .ok (.iadd, 1) := by decide +kernel
theorem dX11_letters_76 : decode cX11_letters 76 = .ok (.istore_n 3, 1) := by decide +kernel
theorem dX11_letters_77 : decode cX11_letters 77 = .ok (.iinc 7 1, 3) := by decide +kernel
theorem dX11_letters_80 : decode cX11_letters 80 = .ok (.goto (-69), 3) := by decide +kernel
theorem dX11_letters_83 : decode cX11_letters 83 = .ok (.iload 4, 2) := by decide +kernel
theorem dX11_letters_85 : decode cX11_letters 85 = .ok (.ifCond .ne 6, 3) := by decide +kernel
theorem dX11_letters_88 : decode cX11_letters 88 = .ok (.bipush (-102), 2) := by decide +kernel
theorem dX11_letters_90 : decode cX11_letters 90 = .ok (.ireturn, 1) := by decide +kernel
theorem dX11_letters_91 : decode cX11_letters 91 = .ok (.aload_n 0, 1) := by decide +kernel
theorem dX11_letters_92 : decode cX11_letters 92 = .ok (.getfield 87, 3) := by decide +kernel
theorem dX11_letters_95 : decode cX11_letters 95 = .ok (.iload_n 3, 1) := by decide +kernel
theorem dX11_letters_96 : decode cX11_letters 96 = .ok (.iadd, 1) := by decide +kernel
theorem dX11_letters_97 : decode cX11_letters 97 = .ok (.bipush 32, 2) := by decide +kernel
theorem dX11_letters_99 : decode cX11_letters 99 = .ok (.if_icmp .le 6, 3) := by decide +kernel
theorem dX11_letters_102 : decode cX11_letters 102 = .ok (.bipush (-104), 2) := by decide +kernel
theorem dX11_letters_104 : decode cX11_letters 104 = .ok (.ireturn, 1) := by decide +kernel
theorem dX11_letters_105 : decode cX11_letters 105 = .ok (.iconst 0, 1) := by decide +kernel
theorem dX11_letters_106 : decode cX11_letters 106 = .ok (.istore 7, 2) := by decide +kernel
theorem dX11_letters_108 : decode cX11_letters 108 = .ok (.iload 7, 2) := by decide +kernel
theorem dX11_letters_110 : decode cX11_letters 110 = .ok (.iload_n 3, 1) := by decide +kernel
theorem dX11_letters_111 : decode cX11_letters 111 = .ok (.if_icmp .ge 40, 3) := by decide +kernel
theorem dX11_letters_114 : decode cX11_letters 114 = .ok (.aload_n 0, 1) := by decide +kernel
theorem dX11_letters_115 : decode cX11_letters 115 = .ok (.getfield 16, 3) := by decide +kernel
theorem dX11_letters_118 : decode cX11_letters 118 = .ok (.aload_n 0, 1) := by decide +kernel
theorem dX11_letters_119 : decode cX11_letters 119 = .ok (.getfield 87, 3) := by decide +kernel
theorem dX11_letters_122 : decode cX11_letters 122 = .ok (.lload_n 1, 1) := by decide +kernel
theorem dX11_letters_123 : decode cX11_letters 123 = .ok (.bipush 8, 2) := by decide +kernel
theorem dX11_letters_125 : decode cX11_letters 125 = .ok (.iload 7, 2) := by decide +kernel
theorem dX11_letters_127 : decode cX11_letters 127 = .ok (.imul, 1) := by decide +kernel
theorem dX11_letters_128 : decode cX11_letters 128 = .ok (.lushr, 1) := by decide +kernel
theorem dX11_letters_129 : decode cX11_letters 129 = .ok (.ldc2_w 85, 3) := by decide +kernel
theorem dX11_letters_132 : decode cX11_letters 132 = .ok (.land, 1) := by decide +kernel
theorem dX11_letters_133 : decode cX11_letters 133 = .ok (.l2i, 1) := by decide +kernel
theorem dX11_letters_134 : decode cX11_letters 134 = .ok (.iastore, 1) := by decide +kernel
theorem dX11_letters_135 : decode cX11_letters 135 = .ok (.aload_n 0, 1) := by decide +kernel
theorem dX11_letters_136 : decode cX11_letters 136 = .ok (.dup, 1) := by decide +kernel
theorem dX11_letters_137 : decode cX11_letters 137 = .ok (.getfield 87, 3) := by decide +kernel
theorem dX11_letters_140 : decode cX11_letters 140 = .ok (.iconst 1, 1) := by decide +kernel
theorem dX11_letters_141 : decode cX11_letters 141 = .ok (.iadd, 1) := by decide +kernel
theorem dX11_letters_142 : decode cX11_letters 142 = .ok (.putfield 87, 3) := by decide +kernel
theorem dX11_letters_145 : decode cX11_letters 145 = .ok (.iinc 7 1, 3) := by decide +kernel
theorem dX11_letters_148 : decode cX11_letters 148 = .ok (.goto (-40), 3) := by decide +kernel
theorem dX11_letters_151 : decode cX11_letters 151 = .ok (.aload_n 0, 1) := by decide +kernel
theorem dX11_letters_152 : decode cX11_letters 152 = .ok (.getfield 87, 3) := by decide +kernel
theorem dX11_letters_155 : decode cX11_letters 155 = .ok (.ireturn, 1) := by decide +kernel
theorem dX11_blank_0 : decode cX11_blank 0 = .ok (.aload_n 0, 1) := by decide +kernel
theorem dX11_blank_1 : decode cX11_blank 1 = .ok (.getfield 87, 3) := by decide +kernel
theorem dX11_blank_4 : decode cX11_blank 4 = .ok (.istore_n 1, 1) := by decide +kernel
theorem dX11_blank_5 : decode cX11_blank 5 = .ok (.aload_n 0, 1) := by decide +kernel
theorem dX11_blank_6 : decode cX11_blank 6 = .ok (.iconst 0, 1) := by decide +kernel
theorem dX11_blank_7 : decode cX11_blank 7 = .ok (.putfield 87, 3) := by decide +kernel
theorem dX11_blank_10 : decode cX11_blank 10 = .ok (.iload_n 1, 1) := by decide +kernel
theorem dX11_blank_11 : decode cX11_blank 11 = .ok (.ireturn, 1) := by decide +kernel
theorem dX11_goPerson_0 : decode cX11_goPerson 0 = .ok (.bipush 7, 2) := by decide +kernel
theorem dX11_goPerson_2 : decode cX11_goPerson 2 = .ok (.aload_n 0, 1) := by decide +kernel
theorem dX11_goPerson_3 : decode cX11_goPerson 3 = .ok (.getfield 90, 3) := by decide +kernel
theorem dX11_goPerson_6 : decode cX11_goPerson 6 = .ok (.imul, 1) := by decide +kernel
theorem dX11_goPerson_7 : decode cX11_goPerson 7 = .ok (.istore_n 2, 1) := by decide +kernel
theorem dX11_goPerson_8 : decode cX11_goPerson 8 = .ok (.iload_n 1, 1) := by decide +kernel
theorem dX11_goPerson_9 : decode cX11_goPerson 9 = .ok (.bipush 48, 2) := by decide +kernel
theorem dX11_goPerson_11 : decode cX11_goPerson 11 = .ok (.isub, 1) := by decide +kernel
theorem dX11_goPerson_12 : decode cX11_goPerson 12 = .ok (.istore_n 3, 1) := by decide +kernel
theorem dX11_goPerson_13 : decode cX11_goPerson 13 = .ok (.aload_n 0, 1) := by decide +kernel
theorem dX11_goPerson_14 : decode cX11_goPerson 14 = .ok (.getfield 19, 3) := by decide +kernel
theorem dX11_goPerson_17 : decode cX11_goPerson 17 = .ok (.iload_n 2, 1) := by decide +kernel
theorem dX11_goPerson_18 : decode cX11_goPerson 18 = .ok (.iaload, 1) := by decide +kernel
theorem dX11_goPerson_19 : decode cX11_goPerson 19 = .ok (.iconst 1, 1) := by decide +kernel
theorem dX11_goPerson_20 : decode cX11_goPerson 20 = .ok (.if_icmp .ne 7, 3) := by decide +kernel
theorem dX11_goPerson_23 : decode cX11_goPerson 23 = .ok (.iconst 4, 1) := by decide +kernel
theorem dX11_goPerson_24 : decode cX11_goPerson 24 = .ok (.goto 4, 3) := by decide +kernel
theorem dX11_goPerson_27 : decode cX11_goPerson 27 = .ok (.iconst 2, 1) := by decide +kernel
theorem dX11_goPerson_28 : decode cX11_goPerson 28 = .ok (.istore 4, 2) := by decide +kernel
theorem dX11_goPerson_30 : decode cX11_goPerson 30 = .ok (.iload_n 3, 1) := by decide +kernel
theorem dX11_goPerson_31 : decode cX11_goPerson 31 = .ok (.invokestatic 82, 3) := by decide +kernel
theorem dX11_goPerson_34 : decode cX11_goPerson 34 = .ok (.ifCond .eq 31, 3) := by decide +kernel
theorem dX11_goPerson_37 : decode cX11_goPerson 37 = .ok (.aload_n 0, 1) := by decide +kernel
theorem dX11_goPerson_38 : decode cX11_goPerson 38 = .ok (.getfield 93, 3) := by decide +kernel
theorem dX11_goPerson_41 : decode cX11_goPerson 41 = .ok (.iload_n 3, 1) := by decide +kernel
theorem dX11_goPerson_42 : decode cX11_goPerson 42 = .ok (.ishr, 1) := by decide +kernel
theorem dX11_goPerson_43 : decode cX11_goPerson 43 = .ok (.iconst 1, 1) := by decide +kernel
theorem dX11_goPerson_44 : decode cX11_goPerson 44 = .ok (.iand, 1) := by decide +kernel
theorem dX11_goPerson_45 : decode cX11_goPerson 45 = .ok (.ifCond .ne 20, 3) := by decide +kernel
theorem dX11_goPerson_48 : decode cX11_goPerson 48 = .ok (.aload_n 0, 1) := by decide +kernel
theorem dX11_goPerson_49 : decode cX11_goPerson 49 = .ok (.getfield 19, 3) := by decide +kernel
theorem dX11_goPerson_52 : decode cX11_goPerson 52 = .ok (.iload_n 2, 1) := by decide +kernel
theorem dX11_goPerson_53 : decode cX11_goPerson 53 = .ok (.iconst 1, 1) := by decide +kernel
theorem dX11_goPerson_54 : decode cX11_goPerson 54 = .ok (.iadd, 1) := by decide +kernel
theorem dX11_goPerson_55 : decode cX11_goPerson 55 = .ok (.iaload, 1) := by decide +kernel
theorem dX11_goPerson_56 : decode cX11_goPerson 56 = .ok (.iload 4, 2) := by decide +kernel
theorem dX11_goPerson_58 : decode cX11_goPerson 58 = .ok (.if_icmp .ge 7, 3) := by decide +kernel
theorem dX11_goPerson_61 : decode cX11_goPerson 61 = .ok (.iconst 1, 1) := by decide +kernel
theorem dX11_goPerson_62 : decode cX11_goPerson 62 = .ok (.goto 4, 3) := by decide +kernel
theorem dX11_goPerson_65 : decode cX11_goPerson 65 = .ok (.iconst 0, 1) := by decide +kernel
theorem dX11_goPerson_66 : decode cX11_goPerson 66 = .ok (.istore 5, 2) := by decide +kernel
theorem dX11_goPerson_68 : decode cX11_goPerson 68 = .ok (.iload 5, 2) := by decide +kernel
theorem dX11_goPerson_70 : decode cX11_goPerson 70 = .ok (.ifCond .eq 45, 3) := by decide +kernel
theorem dX11_goPerson_73 : decode cX11_goPerson 73 = .ok (.aload_n 0, 1) := by decide +kernel
theorem dX11_goPerson_74 : decode cX11_goPerson 74 = .ok (.dup, 1) := by decide +kernel
theorem dX11_goPerson_75 : decode cX11_goPerson 75 = .ok (.getfield 93, 3) := by decide +kernel
theorem dX11_goPerson_78 : decode cX11_goPerson 78 = .ok (.iconst 1, 1) := by decide +kernel
theorem dX11_goPerson_79 : decode cX11_goPerson 79 = .ok (.iload_n 3, 1) := by decide +kernel
theorem dX11_goPerson_80 : decode cX11_goPerson 80 = .ok (.ishl, 1) := by decide +kernel
theorem dX11_goPerson_81 : decode cX11_goPerson 81 = .ok (.ior, 1) := by decide +kernel
theorem dX11_goPerson_82 : decode cX11_goPerson 82 = .ok (.putfield 93, 3) := by decide +kernel
theorem dX11_goPerson_85 : decode cX11_goPerson 85 = .ok (.aload_n 0, 1) := by decide +kernel
theorem dX11_goPerson_86 : decode cX11_goPerson 86 = .ok (.getfield 19, 3) := by decide +kernel
theorem dX11_goPerson_89 : decode cX11_goPerson 89 = .ok (.iload_n 2, 1) := by decide +kernel
theorem dX11_goPerson_90 : decode cX11_goPerson 90 = .ok (.iconst 3, 1) := by decide +kernel
theorem dX11_goPerson_91 : decode cX11_goPerson 91 = .ok (.iadd, 1) := by decide +kernel
theorem dX11_goPerson_92 : decode cX11_goPerson 92 = .ok (.aload_n 0, 1) := by decide +kernel
theorem dX11_goPerson_93 : decode cX11_goPerson 93 = .ok (.getfield 19, 3) := by decide +kernel
theorem dX11_goPerson_96 : decode cX11_goPerson 96 = .ok (.iload_n 2, 1) := by decide +kernel
theorem dX11_goPerson_97 : decode cX11_goPerson 97 = .ok (.iconst 1, 1) := by decide +kernel
theorem dX11_goPerson_98 : decode cX11_goPerson 98 = .ok (.iadd, 1) := by decide +kernel
theorem dX11_goPerson_99 : decode cX11_goPerson 99 = .ok (.iaload, 1) := by decide +kernel
theorem dX11_goPerson_100 : decode cX11_goPerson 100 = .ok (.iadd, 1) := by decide +kernel
theorem dX11_goPerson_101 : decode cX11_goPerson 101 = .ok (.iload_n 3, 1) := by decide +kernel
theorem dX11_goPerson_102 : decode cX11_goPerson 102 = .ok (.iastore, 1) := by decide +kernel
theorem dX11_goPerson_103 : decode cX11_goPerson 103 = .ok (.aload_n 0, 1) := by decide +kernel
theorem dX11_goPerson_104 : decode cX11_goPerson 104 = .ok (.getfield 19, 3) := by decide +kernel
theorem dX11_goPerson_107 : decode cX11_goPerson 107 = .ok (.iload_n 2, 1) := by decide +kernel
theorem dX11_goPerson_108 : decode cX11_goPerson 108 = .ok (.iconst 1, 1) := by decide +kernel
theorem dX11_goPerson_109 : decode cX11_goPerson 109 = .ok (.iadd, 1) := by decide +kernel
theorem dX11_goPerson_110 : decode cX11_goPerson 110 = .ok (.dup2, 1) := by decide +kernel
theorem dX11_goPerson_111 : decode cX11_goPerson 111 = .ok (.iaload, 1) := by decide +kernel
theorem dX11_goPerson_112 : decode cX11_goPerson 112 = .ok (.iconst 1, 1) := by decide +kernel
theorem dX11_goPerson_113 : decode cX11_goPerson 113 = .ok (.iadd, 1) := by decide +kernel
theorem dX11_goPerson_114 : decode cX11_goPerson 114 = .ok (.iastore, 1) := by decide +kernel
theorem dX11_goPerson_115 : decode cX11_goPerson 115 = .ok (.aload_n 0, 1) := by decide +kernel
theorem dX11_goPerson_116 : decode cX11_goPerson 116 = .ok (.iconst 2, 1) := by decide +kernel
theorem dX11_goPerson_117 : decode cX11_goPerson 117 = .ok (.putfield 96, 3) := by decide +kernel
theorem dX11_goPerson_120 : decode cX11_goPerson 120 = .ok (.iload 5, 2) := by decide +kernel
theorem dX11_goPerson_122 : decode cX11_goPerson 122 = .ok (.ireturn, 1) := by decide +kernel
theorem dX11_isBirth_0 : decode cX11_isBirth 0 = .ok (.aload_n 0, 1) := by decide +kernel
theorem dX11_isBirth_1 : decode cX11_isBirth 1 = .ok (.getfield 19, 3) := by decide +kernel
theorem dX11_isBirth_4 : decode cX11_isBirth 4 = .ok (.bipush 7, 2) := by decide +kernel
theorem dX11_isBirth_6 : decode cX11_isBirth 6 = .ok (.aload_n 0, 1) := by decide +kernel
theorem dX11_isBirth_7 : decode cX11_isBirth 7 = .ok (.getfield 90, 3) := by decide +kernel
theorem dX11_isBirth_10 : decode cX11_isBirth 10 = .ok (.imul, 1) := by decide +kernel
theorem dX11_isBirth_11 : decode cX11_isBirth 11 = .ok (.iconst 1, 1) := by decide +kernel
theorem dX11_isBirth_12 : decode cX11_isBirth 12 = .ok (.iadd, 1) := by decide +kernel
theorem dX11_isBirth_13 : decode cX11_isBirth 13 = .ok (.iaload, 1) := by decide +kernel
theorem dX11_isBirth_14 : decode cX11_isBirth 14 = .ok (.istore_n 1, 1) := by decide +kernel
theorem dX11_isBirth_15 : decode cX11_isBirth 15 = .ok (.aload_n 0, 1) := by decide +kernel
theorem dX11_isBirth_16 : decode cX11_isBirth 16 = .ok (.getfield 96, 3) := by decide +kernel
theorem dX11_isBirth_19 : decode cX11_isBirth 19 = .ok (.iconst 2, 1) := by decide +kernel
theorem dX11_isBirth_20 : decode cX11_isBirth 20 = .ok (.if_icmp .ne 32, 3) := by decide +kernel
theorem dX11_isBirth_23 : decode cX11_isBirth 23 = .ok (.iload_n 1, 1) := by decide +kernel
theorem dX11_isBirth_24 : decode cX11_isBirth 24 = .ok (.aload_n 0, 1) := by decide +kernel
theorem dX11_isBirth_25 : decode cX11_isBirth 25 = .ok (.getfield 19, 3) := by decide +kernel
theorem dX11_isBirth_28 : decode cX11_isBirth 28 = .ok (.bipush 7, 2) := by decide +kernel
theorem dX11_isBirth_30 : decode cX11_isBirth 30 = .ok (.aload_n 0, 1) := by decide +kernel
theorem dX11_isBirth_31 : decode cX11_isBirth 31 = .ok (.getfield 90, 3) := by decide +kernel
theorem dX11_isBirth_34 : decode cX11_isBirth 34 = .ok (.imul, 1) := by decide +kernel
theorem dX11_isBirth_35 : decode cX11_isBirth 35 = .ok (.iaload, 1) := by decide +kernel
theorem dX11_isBirth_36 : decode cX11_isBirth 36 = .ok (.iconst 1, 1) := by decide +kernel
theorem dX11_isBirth_37 : decode cX11_isBirth 37 = .ok (.if_icmp .ne 7, 3) := by decide +kernel
theorem dX11_isBirth_40 : decode cX11_isBirth 40 = .ok (.iconst 3, 1) := by decide +kernel
theorem dX11_isBirth_41 : decode cX11_isBirth 41 = .ok (.goto 4, 3) := by decide +kernel
theorem dX11_isBirth_44 : decode cX11_isBirth 44 = .ok (.iconst 2, 1) := by decide +kernel
theorem dX11_isBirth_45 : decode cX11_isBirth 45 = .ok (.if_icmp .lt 7, 3) := by decide +kernel
theorem dX11_isBirth_48 : decode cX11_isBirth 48 = .ok (.iconst 1, 1) := by decide +kernel
theorem dX11_isBirth_49 : decode cX11_isBirth 49 = .ok (.goto 4, 3) := by decide +kernel
theorem dX11_isBirth_52 : decode cX11_isBirth 52 = .ok (.iconst 0, 1) := by decide +kernel
theorem dX11_isBirth_53 : decode cX11_isBirth 53 = .ok (.ireturn, 1) := by decide +kernel
theorem dX11_go_0 : decode cX11_go 0 = .ok (.bipush 7, 2) := by decide +kernel
theorem dX11_go_2 : decode cX11_go 2 = .ok (.aload_n 0, 1) := by decide +kernel
theorem dX11_go_3 : decode cX11_go 3 = .ok (.getfield 90, 3) := by decide +kernel
theorem dX11_go_6 : decode cX11_go 6 = .ok (.imul, 1) := by decide +kernel
theorem dX11_go_7 : decode cX11_go 7 = .ok (.istore_n 2, 1) := by decide +kernel
theorem dX11_go_8 : decode cX11_go 8 = .ok (.aload_n 0, 1) := by decide +kernel
theorem dX11_go_9 : decode cX11_go 9 = .ok (.getfield 96, 3) := by decide +kernel
theorem dX11_go_12 : decode cX11_go 12 = .ok (.ifCond .ne 116, 3) := by decide +kernel
theorem dX11_go_15 : decode cX11_go 15 = .ok (.aload_n 0, 1) := by decide +kernel
theorem dX11_go_16 : decode cX11_go 16 = .ok (.getfield 19, 3) := by decide +kernel
theorem dX11_go_19 : decode cX11_go 19 = .ok (.iload_n 2, 1) := by decide +kernel
theorem dX11_go_20 : decode cX11_go 20 = .ok (.iload_n 1, 1) := by decide +kernel
theorem dX11_go_21 : decode cX11_go 21 = .ok (.bipush 111, 2) := by decide +kernel
theorem dX11_go_23 : decode cX11_go 23 = .ok (.if_icmp .ne 7, 3) := by decide +kernel
theorem dX11_go_26 : decode cX11_go 26 = .ok (.iconst 1, 1) := by decide +kernel
theorem dX11_go_27 : decode cX11_go 27 = .ok (.goto 24, 3) := by decide +kernel
theorem dX11_go_30 : decode cX11_go 30 = .ok (.iload_n 1, 1) := by decide +kernel
theorem dX11_go_31 : decode cX11_go 31 = .ok (.bipush 63, 2) := by decide +kernel
theorem dX11_go_33 : decode cX11_go 33 = .ok (.if_icmp .ne 7, 3) := by decide +kernel
theorem dX11_go_36 : decode cX11_go 36 = .ok (.iconst 2, 1) := by decide +kernel
theorem dX11_go_37 : decode cX11_go 37 = .ok (.goto 14, 3) := by decide +kernel
theorem dX11_go_40 : decode cX11_go 40 = .ok (.iload_n 1, 1) := by decide +kernel
theorem dX11_go_41 : decode cX11_go 41 = .ok (.bipush 43, 2) := by decide +kernel
theorem dX11_go_43 : decode cX11_go 43 = .ok (.if_icmp .ne 7, 3) := by decide +kernel
theorem dX11_go_46 : decode cX11_go 46 = .ok (.iconst 3, 1) := by decide +kernel
theorem dX11_go_47 : decode cX11_go 47 = .ok (.goto 4, 3) := by decide +kernel
theorem dX11_go_50 : decode cX11_go 50 = .ok (.iconst 0, 1) := by decide +kernel
theorem dX11_go_51 : decode cX11_go 51 = .ok (.iastore, 1) := by decide +kernel
theorem dX11_go_52 : decode cX11_go 52 = .ok (.iconst 1, 1) := by decide +kernel
theorem dX11_go_53 : decode cX11_go 53 = .ok (.istore_n 3, 1) := by decide +kernel
theorem dX11_go_54 : decode cX11_go 54 = .ok (.iload_n 3, 1) := by decide +kernel
theorem dX11_go_55 : decode cX11_go 55 = .ok (.bipush 7, 2) := by decide +kernel
theorem dX11_go_57 : decode cX11_go 57 = .ok (.if_icmp .ge 27, 3) := by decide +kernel
theorem dX11_go_60 : decode cX11_go 60 = .ok (.aload_n 0, 1) := by decide +kernel
theorem dX11_go_61 : decode cX11_go 61 = .ok (.getfield 19, 3) := by decide +kernel
theorem dX11_go_64 : decode cX11_go 64 = .ok (.iload_n 2, 1) := by decide +kernel
theorem dX11_go_65 : decode cX11_go 65 = .ok (.iload_n 3, 1) := by decide +kernel
theorem dX11_go_66 : decode cX11_go 66 = .ok (.iadd, 1) := by decide +kernel
theorem dX11_go_67 : decode cX11_go 67 = .ok (.iload_n 3, 1) := by decide +kernel
theorem dX11_go_68 : decode cX11_go 68 = .ok (.iconst 3, 1) := by decide +kernel
theorem dX11_go_69 : decode cX11_go 69 = .ok (.if_icmp .ge 7, 3) := by decide +kernel
theorem dX11_go_72 : decode cX11_go 72 = .ok (.iconst 0, 1) := by decide +kernel
theorem dX11_go_73 : decode cX11_go 73 = .ok (.goto 4, 3) := by decide +kernel
theorem dX11_go_76 : decode cX11_go 76 = .ok (.iconst (-1), 1) := by decide +kernel
theorem dX11_go_77 : decode cX11_go 77 = .ok (.iastore, 1) := by decide +kernel
theorem dX11_go_78 : decode cX11_go 78 = .ok (.iinc 3 1, 3) := by decide +kernel
theorem dX11_go_81 : decode cX11_go 81 = .ok (.goto (-27), 3) := by decide +kernel
theorem dX11_go_84 : decode cX11_go 84 = .ok (.aload_n 0, 1) := by decide +kernel
theorem dX11_go_85 : decode cX11_go 85 = .ok (.iload_n 1, 1) := by decide +kernel
theorem dX11_go_86 : decode cX11_go 86 = .ok (.bipush 63, 2) := by decide +kernel
theorem dX11_go_88 : decode cX11_go 88 = .ok (.if_icmp .eq 9, 3) := by decide +kernel
theorem dX11_go_91 : decode cX11_go 91 = .ok (.iload_n 1, 1) := by decide +kernel
theorem dX11_go_92 : decode cX11_go 92 = .ok (.bipush 43, 2) := by decide +kernel
theorem dX11_go_94 : decode cX11_go 94 = .ok (.if_icmp .ne 7, 3) := by decide +kernel
theorem dX11_go_97 : decode cX11_go 97 = .ok (.iconst 1, 1) := by decide +kernel
theorem dX11_go_98 : decode cX11_go 98 = .ok (.goto 4, 3) := by decide +kernel
theorem dX11_go_101 : decode cX11_go 101 = .ok (.iconst 2, 1) := by decide +kernel
theorem dX11_go_102 : decode cX11_go 102 = .ok (.putfield 96, 3) := by decide +kernel
theorem dX11_go_105 : decode cX11_go 105 = .ok (.aload_n 0, 1) := by decide +kernel
theorem dX11_go_106 : decode cX11_go 106 = .ok (.getfield 19, 3) := by decide +kernel
theorem dX11_go_109 : decode cX11_go 109 = .ok (.iload_n 2, 1) := by decide +kernel
theorem dX11_go_110 : decode cX11_go 110 = .ok (.iaload, 1) := by decide +kernel
theorem dX11_go_111 : decode cX11_go 111 = .ok (.ifCond .gt 11, 3) := by decide +kernel
theorem dX11_go_114 : decode cX11_go 114 = .ok (.aload_n 0, 1) := by decide +kernel
theorem dX11_go_115 : decode cX11_go 115 = .ok (.iload_n 1, 1) := by decide +kernel
theorem dX11_go_116 : decode cX11_go 116 = .ok (.invokevirtual 99, 3) := by decide +kernel
theorem dX11_go_119 : decode cX11_go 119 = .ok (.ifCond .eq 7, 3) := by decide +kernel
theorem dX11_go_122 : decode cX11_go 122 = .ok (.iconst 1, 1) := by decide +kernel
theorem dX11_go_123 : decode cX11_go 123 = .ok (.goto 4, 3) := by decide +kernel
theorem dX11_go_126 : decode cX11_go 126 = .ok (.iconst 0, 1) := by decide +kernel
theorem dX11_go_127 : decode cX11_go 127 = .ok (.ireturn, 1) := by decide +kernel
theorem dX11_go_128 : decode cX11_go 128 = .ok (.aload_n 0, 1) := by decide +kernel
theorem dX11_go_129 : decode cX11_go 129 = .ok (.getfield 96, 3) := by decide +kernel
theorem dX11_go_132 : decode cX11_go 132 = .ok (.iconst 1, 1) := by decide +kernel
theorem dX11_go_133 : decode cX11_go 133 = .ok (.if_icmp .ne 32, 3) := by decide +kernel
theorem dX11_go_136 : decode cX11_go 136 = .ok (.aload_n 0, 1) := by decide +kernel
theorem dX11_go_137 : decode cX11_go 137 = .ok (.getfield 19, 3) := by decide +kernel
theorem dX11_go_140 : decode cX11_go 140 = .ok (.iload_n 2, 1) := by decide +kernel
theorem dX11_go_141 : decode cX11_go 141 = .ok (.iconst 2, 1) := by decide +kernel
theorem dX11_go_142 : decode cX11_go 142 = .ok (.iadd, 1) := by decide +kernel
theorem dX11_go_143 : decode cX11_go 143 = .ok (.iload_n 1, 1) := by decide +kernel
theorem dX11_go_144 : decode cX11_go 144 = .ok (.bipush 48, 2) := by decide +kernel
theorem dX11_go_146 : decode cX11_go 146 = .ok (.isub, 1) := by decide +kernel
theorem dX11_go_147 : decode cX11_go 147 = .ok (.iastore, 1) := by decide +kernel
theorem dX11_go_148 : decode cX11_go 148 = .ok (.aload_n 0, 1) := by decide +kernel
theorem dX11_go_149 : decode cX11_go 149 = .ok (.iconst 2, 1) := by decide +kernel
theorem dX11_go_150 : decode cX11_go 150 = .ok (.putfield 96, 3) := by decide +kernel
theorem dX11_go_153 : decode cX11_go 153 = .ok (.iload_n 1, 1) := by decide +kernel
theorem dX11_go_154 : decode cX11_go 154 = .ok (.i2l, 1) := by decide +kernel
theorem dX11_go_155 : decode cX11_go 155 = .ok (.ldc2_w 102, 3) := by decide +kernel
theorem dX11_go_158 : decode cX11_go 158 = .ok (.ldc2_w 104, 3) := by decide +kernel
theorem dX11_go_161 : decode cX11_go 161 = .ok (.invokestatic 70, 3) := by decide +kernel
theorem dX11_go_164 : decode cX11_go 164 = .ok (.ireturn, 1) := by decide +kernel
theorem dX11_go_165 : decode cX11_go 165 = .ok (.iload_n 1, 1) := by decide +kernel
theorem dX11_go_166 : decode cX11_go 166 = .ok (.bipush 44, 2) := by decide +kernel
theorem dX11_go_168 : decode cX11_go 168 = .ok (.if_icmp .ne 60, 3) := by decide +kernel
theorem dX11_go_171 : decode cX11_go 171 = .ok (.aload_n 0, 1) := by decide +kernel
theorem dX11_go_172 : decode cX11_go 172 = .ok (.invokevirtual 106, 3) := by decide +kernel
theorem dX11_go_175 : decode cX11_go 175 = .ok (.ifCond .eq 15, 3) := by decide +kernel
theorem dX11_go_178 : decode cX11_go 178 = .ok (.aload_n 0, 1) := by decide +kernel
theorem dX11_go_179 : decode cX11_go 179 = .ok (.getfield 90, 3) := by decide +kernel
theorem dX11_go_182 : decode cX11_go 182 = .ok (.iconst 4, 1) := by decide +kernel
theorem dX11_go_183 : decode cX11_go 183 = .ok (.if_icmp .ge 7, 3) := by decide +kernel
theorem dX11_go_186 : decode cX11_go 186 = .ok (.iconst 1, 1) := by decide +kernel
theorem dX11_go_187 : decode cX11_go 187 = .ok (.goto 4, 3) := by decide +kernel
theorem dX11_go_190 : decode cX11_go 190 = .ok (.iconst 0, 1) := by decide +kernel
theorem dX11_go_191 : decode cX11_go 191 = .ok (.istore_n 3, 1) := by decide +kernel
theorem dX11_go_192 : decode cX11_go 192 = .ok (.aload_n 0, 1) := by decide +kernel
theorem dX11_go_193 : decode cX11_go 193 = .ok (.dup, 1) := by decide +kernel
theorem dX11_go_194 : decode cX11_go 194 = .ok (.getfield 90, 3) := by decide +kernel
theorem dX11_go_197 : decode cX11_go 197 = .ok (.iload_n 3, 1) := by decide +kernel
theorem dX11_go_198 : decode cX11_go 198 = .ok (.ifCond .eq 7, 3) := by decide +kernel
theorem dX11_go_201 : decode cX11_go 201 = .ok (.iconst 1, 1) := by decide +kernel
theorem dX11_go_202 : decode cX11_go 202 = .ok (.goto 4, 3) := by decide +kernel
theorem dX11_go_205 : decode cX11_go 205 = .ok (.iconst 0, 1) := by decide +kernel
theorem dX11_go_206 : decode cX11_go 206 = .ok (.iadd, 1) := by decide +kernel
theorem dX11_go_207 : decode cX11_go 207 = .ok (.putfield 90, 3) := by decide +kernel
theorem dX11_go_210 : decode cX11_go 210 = .ok (.aload_n 0, 1) := by decide +kernel
theorem dX11_go_211 : decode cX11_go 211 = .ok (.iload_n 3, 1) := by decide +kernel
theorem dX11_go_212 : decode cX11_go 212 = .ok (.ifCond .eq 7, 3) := by decide +kernel
theorem dX11_go_215 : decode cX11_go 215 = .ok (.iconst 0, 1) := by decide +kernel
theorem dX11_go_216 : decode cX11_go 216 = .ok (.goto 7, 3) := by decide +kernel
theorem dX11_go_219 : decode cX11_go 219 = .ok (.aload_n 0, 1) := by decide +kernel
theorem dX11_go_220 : decode cX11_go 220 = .ok (.getfield 96, 3) := by decide +kernel
theorem dX11_go_223 : decode cX11_go 223 = .ok (.putfield 96, 3) := by decide +kernel
theorem dX11_go_226 : decode cX11_go 226 = .ok (.iload_n 3, 1) := by decide +kernel
theorem dX11_go_227 : decode cX11_go 227 = .ok (.ireturn, 1) := by decide +kernel
theorem dX11_go_228 : decode cX11_go 228 = .ok (.aload_n 0, 1) := by decide +kernel
theorem dX11_go_229 : decode cX11_go 229 = .ok (.iload_n 1, 1) := by decide +kernel
theorem dX11_go_230 : decode cX11_go 230 = .ok (.invokevirtual 99, 3) := by decide +kernel
theorem dX11_go_233 : decode cX11_go 233 = .ok (.ireturn, 1) := by decide +kernel
theorem dX11_faultOf_0 : decode cX11_faultOf 0 = .ok (.aload_n 0, 1) := by decide +kernel
theorem dX11_faultOf_1 : decode cX11_faultOf 1 = .ok (.iconst 0, 1) := by decide +kernel
theorem dX11_faultOf_2 : decode cX11_faultOf 2 = .ok (.putfield 90, 3) := by decide +kernel
theorem dX11_faultOf_5 : decode cX11_faultOf 5 = .ok (.aload_n 0, 1) := by decide +kernel
theorem dX11_faultOf_6 : decode cX11_faultOf 6 = .ok (.iconst 0, 1) := by decide +kernel
theorem dX11_faultOf_7 : decode cX11_faultOf 7 = .ok (.putfield 93, 3) := by decide +kernel
end
section
theorem dX11_faultOf_10 : decode cX11_faultOf 10 = .ok (.aload_n 0, 1) := by decide +kernel
theorem dX11_faultOf_11 : decode cX11_faultOf 11 = .ok (.iconst 0, 1) := by decide +kernel
theorem dX11_faultOf_12 : decode cX11_faultOf 12 = .ok (.putfield 96, 3) := by decide +kernel
theorem dX11_faultOf_15 : decode cX11_faultOf 15 = .ok (.iconst 0, 1) := by decide +kernel
theorem dX11_faultOf_16 : decode cX11_faultOf 16 = .ok (.istore_n 1, 1) := by decide +kernel
theorem dX11_faultOf_17 : decode cX11_faultOf 17 = .ok (.iload_n 1, 1) := by decide +kernel
theorem dX11_faultOf_18 : decode cX11_faultOf 18 = .ok (.aload_n 0, 1) := by decide +kernel
theorem dX11_faultOf_19 : decode cX11_faultOf 19 = .ok (.getfield 87, 3) := by decide +kernel
theorem dX11_faultOf_22 : decode cX11_faultOf 22 = .ok (.if_icmp .ge 22, 3) := by decide +kernel
theorem dX11_faultOf_25 : decode cX11_faultOf 25 = .ok (.aload_n 0, 1) := by decide +kernel
theorem dX11_faultOf_26 : decode cX11_faultOf 26 = .ok (.aload_n 0, 1) := by decide +kernel
theorem dX11_faultOf_27 : decode cX11_faultOf 27 = .ok (.getfield 16, 3) := by decide +kernel
theorem dX11_faultOf_30 : decode cX11_faultOf 30 = .ok (.iload_n 1, 1) := by decide +kernel
theorem dX11_faultOf_31 : decode cX11_faultOf 31 = .ok (.iaload, 1) := by decide +kernel
theorem dX11_faultOf_32 : decode cX11_faultOf 32 = .ok (.invokevirtual 110, 3) := by decide +kernel
theorem dX11_faultOf_35 : decode cX11_faultOf 35 = .ok (.ifCond .eq 9, 3) := by decide +kernel
theorem dX11_faultOf_38 : decode cX11_faultOf 38 = .ok (.iinc 1 1, 3) := by decide +kernel
theorem dX11_faultOf_41 : decode cX11_faultOf 41 = .ok (.goto (-24), 3) := by decide +kernel
theorem dX11_faultOf_44 : decode cX11_faultOf 44 = .ok (.iload_n 1, 1) := by decide +kernel
theorem dX11_faultOf_45 : decode cX11_faultOf 45 = .ok (.ireturn, 1) := by decide +kernel
theorem dX11_fault_0 : decode cX11_fault 0 = .ok (.aload_n 0, 1) := by decide +kernel
theorem dX11_fault_1 : decode cX11_fault 1 = .ok (.invokevirtual 113, 3) := by decide +kernel
theorem dX11_fault_4 : decode cX11_fault 4 = .ok (.ireturn, 1) := by decide +kernel
theorem dX11_births_0 : decode cX11_births 0 = .ok (.aload_n 0, 1) := by decide +kernel
theorem dX11_births_1 : decode cX11_births 1 = .ok (.invokevirtual 113, 3) := by decide +kernel
theorem dX11_births_4 : decode cX11_births 4 = .ok (.aload_n 0, 1) := by decide +kernel
theorem dX11_births_5 : decode cX11_births 5 = .ok (.getfield 87, 3) := by decide +kernel
theorem dX11_births_8 : decode cX11_births 8 = .ok (.if_icmp .lt 10, 3) := by decide +kernel
theorem dX11_births_11 : decode cX11_births 11 = .ok (.aload_n 0, 1) := by decide +kernel
theorem dX11_births_12 : decode cX11_births 12 = .ok (.invokevirtual 106, 3) := by decide +kernel
theorem dX11_births_15 : decode cX11_births 15 = .ok (.ifCond .ne 6, 3) := by decide +kernel
theorem dX11_births_18 : decode cX11_births 18 = .ok (.bipush (-103), 2) := by decide +kernel
theorem dX11_births_20 : decode cX11_births 20 = .ok (.ireturn, 1) := by decide +kernel
theorem dX11_births_21 : decode cX11_births 21 = .ok (.aload_n 0, 1) := by decide +kernel
theorem dX11_births_22 : decode cX11_births 22 = .ok (.aload_n 0, 1) := by decide +kernel
theorem dX11_births_23 : decode cX11_births 23 = .ok (.getfield 90, 3) := by decide +kernel
theorem dX11_births_26 : decode cX11_births 26 = .ok (.iconst 1, 1) := by decide +kernel
theorem dX11_births_27 : decode cX11_births 27 = .ok (.iadd, 1) := by decide +kernel
theorem dX11_births_28 : decode cX11_births 28 = .ok (.putfield 117, 3) := by decide +kernel
theorem dX11_births_31 : decode cX11_births 31 = .ok (.iconst 0, 1) := by decide +kernel
theorem dX11_births_32 : decode cX11_births 32 = .ok (.istore_n 1, 1) := by decide +kernel
theorem dX11_births_33 : decode cX11_births 33 = .ok (.iload_n 1, 1) := by decide +kernel
theorem dX11_births_34 : decode cX11_births 34 = .ok (.bipush 10, 2) := by decide +kernel
theorem dX11_births_36 : decode cX11_births 36 = .ok (.if_icmp .ge 16, 3) := by decide +kernel
theorem dX11_births_39 : decode cX11_births 39 = .ok (.aload_n 0, 1) := by decide +kernel
theorem dX11_births_40 : decode cX11_births 40 = .ok (.getfield 25, 3) := by decide +kernel
theorem dX11_births_43 : decode cX11_births 43 = .ok (.iload_n 1, 1) := by decide +kernel
theorem dX11_births_44 : decode cX11_births 44 = .ok (.iconst (-1), 1) := by decide +kernel
theorem dX11_births_45 : decode cX11_births 45 = .ok (.iastore, 1) := by decide +kernel
theorem dX11_births_46 : decode cX11_births 46 = .ok (.iinc 1 1, 3) := by decide +kernel
theorem dX11_births_49 : decode cX11_births 49 = .ok (.goto (-16), 3) := by decide +kernel
theorem dX11_births_52 : decode cX11_births 52 = .ok (.iconst 0, 1) := by decide +kernel
theorem dX11_births_53 : decode cX11_births 53 = .ok (.istore_n 1, 1) := by decide +kernel
theorem dX11_births_54 : decode cX11_births 54 = .ok (.iload_n 1, 1) := by decide +kernel
theorem dX11_births_55 : decode cX11_births 55 = .ok (.bipush 7, 2) := by decide +kernel
theorem dX11_births_57 : decode cX11_births 57 = .ok (.aload_n 0, 1) := by decide +kernel
theorem dX11_births_58 : decode cX11_births 58 = .ok (.getfield 117, 3) := by decide +kernel
theorem dX11_births_61 : decode cX11_births 61 = .ok (.imul, 1) := by decide +kernel
theorem dX11_births_62 : decode cX11_births 62 = .ok (.if_icmp .ge 54, 3) := by decide +kernel
theorem dX11_births_65 : decode cX11_births 65 = .ok (.aload_n 0, 1) := by decide +kernel
theorem dX11_births_66 : decode cX11_births 66 = .ok (.getfield 22, 3) := by decide +kernel
theorem dX11_births_69 : decode cX11_births 69 = .ok (.iload_n 1, 1) := by decide +kernel
theorem dX11_births_70 : decode cX11_births 70 = .ok (.aload_n 0, 1) := by decide +kernel
theorem dX11_births_71 : decode cX11_births 71 = .ok (.getfield 19, 3) := by decide +kernel
theorem dX11_births_74 : decode cX11_births 74 = .ok (.iload_n 1, 1) := by decide +kernel
theorem dX11_births_75 : decode cX11_births 75 = .ok (.iaload, 1) := by decide +kernel
theorem dX11_births_76 : decode cX11_births 76 = .ok (.iastore, 1) := by decide +kernel
theorem dX11_births_77 : decode cX11_births 77 = .ok (.iload_n 1, 1) := by decide +kernel
theorem dX11_births_78 : decode cX11_births 78 = .ok (.bipush 7, 2) := by decide +kernel
theorem dX11_births_80 : decode cX11_births 80 = .ok (.irem, 1) := by decide +kernel
theorem dX11_births_81 : decode cX11_births 81 = .ok (.iconst 2, 1) := by decide +kernel
theorem dX11_births_82 : decode cX11_births 82 = .ok (.if_icmp .le 28, 3) := by decide +kernel
theorem dX11_births_85 : decode cX11_births 85 = .ok (.aload_n 0, 1) := by decide +kernel
theorem dX11_births_86 : decode cX11_births 86 = .ok (.getfield 19, 3) := by decide +kernel
theorem dX11_births_89 : decode cX11_births 89 = .ok (.iload_n 1, 1) := by decide +kernel
theorem dX11_births_90 : decode cX11_births 90 = .ok (.iaload, 1) := by decide +kernel
theorem dX11_births_91 : decode cX11_births 91 = .ok (.iconst (-1), 1) := by decide +kernel
theorem dX11_births_92 : decode cX11_births 92 = .ok (.if_icmp .eq 18, 3) := by decide +kernel
theorem dX11_births_95 : decode cX11_births 95 = .ok (.aload_n 0, 1) := by decide +kernel
theorem dX11_births_96 : decode cX11_births 96 = .ok (.getfield 25, 3) := by decide +kernel
theorem dX11_births_99 : decode cX11_births 99 = .ok (.aload_n 0, 1) := by decide +kernel
theorem dX11_births_100 : decode cX11_births 100 = .ok (.getfield 19, 3) := by decide +kernel
theorem dX11_births_103 : decode cX11_births 103 = .ok (.iload_n 1, 1) := by decide +kernel
theorem dX11_births_104 : decode cX11_births 104 = .ok (.iaload, 1) := by decide +kernel
theorem dX11_births_105 : decode cX11_births 105 = .ok (.iload_n 1, 1) := by decide +kernel
theorem dX11_births_106 : decode cX11_births 106 = .ok (.bipush 7, 2) := by decide +kernel
theorem dX11_births_108 : decode cX11_births 108 = .ok (.idiv, 1) := by decide +kernel
theorem dX11_births_109 : decode cX11_births 109 = .ok (.iastore, 1) := by decide +kernel
theorem dX11_births_110 : decode cX11_births 110 = .ok (.iinc 1 1, 3) := by decide +kernel
theorem dX11_births_113 : decode cX11_births 113 = .ok (.goto (-59), 3) := by decide +kernel
theorem dX11_births_116 : decode cX11_births 116 = .ok (.aload_n 0, 1) := by decide +kernel
theorem dX11_births_117 : decode cX11_births 117 = .ok (.iconst 0, 1) := by decide +kernel
theorem dX11_births_118 : decode cX11_births 118 = .ok (.putfield 120, 3) := by decide +kernel
theorem dX11_births_121 : decode cX11_births 121 = .ok (.aload_n 0, 1) := by decide +kernel
theorem dX11_births_122 : decode cX11_births 122 = .ok (.dup, 1) := by decide +kernel
theorem dX11_births_123 : decode cX11_births 123 = .ok (.getfield 123, 3) := by decide +kernel
theorem dX11_births_126 : decode cX11_births 126 = .ok (.iconst 1, 1) := by decide +kernel
theorem dX11_births_127 : decode cX11_births 127 = .ok (.iadd, 1) := by decide +kernel
theorem dX11_births_128 : decode cX11_births 128 = .ok (.putfield 123, 3) := by decide +kernel
theorem dX11_births_131 : decode cX11_births 131 = .ok (.aload_n 0, 1) := by decide +kernel
theorem dX11_births_132 : decode cX11_births 132 = .ok (.iconst 0, 1) := by decide +kernel
theorem dX11_births_133 : decode cX11_births 133 = .ok (.putfield 87, 3) := by decide +kernel
theorem dX11_births_136 : decode cX11_births 136 = .ok (.aload_n 0, 1) := by decide +kernel
theorem dX11_births_137 : decode cX11_births 137 = .ok (.getfield 117, 3) := by decide +kernel
theorem dX11_births_140 : decode cX11_births 140 = .ok (.ireturn, 1) := by decide +kernel
theorem dX11_birth_0 : decode cX11_birth 0 = .ok (.iload_n 1, 1) := by decide +kernel
theorem dX11_birth_1 : decode cX11_birth 1 = .ok (.i2l, 1) := by decide +kernel
theorem dX11_birth_2 : decode cX11_birth 2 = .ok (.lconst 0, 1) := by decide +kernel
theorem dX11_birth_3 : decode cX11_birth 3 = .ok (.aload_n 0, 1) := by decide +kernel
theorem dX11_birth_4 : decode cX11_birth 4 = .ok (.getfield 117, 3) := by decide +kernel
theorem dX11_birth_7 : decode cX11_birth 7 = .ok (.iconst 1, 1) := by decide +kernel
theorem dX11_birth_8 : decode cX11_birth 8 = .ok (.isub, 1) := by decide +kernel
theorem dX11_birth_9 : decode cX11_birth 9 = .ok (.i2l, 1) := by decide +kernel
theorem dX11_birth_10 : decode cX11_birth 10 = .ok (.invokestatic 70, 3) := by decide +kernel
theorem dX11_birth_13 : decode cX11_birth 13 = .ok (.ifCond .ne 6, 3) := by decide +kernel
theorem dX11_birth_16 : decode cX11_birth 16 = .ok (.bipush (-101), 2) := by decide +kernel
theorem dX11_birth_18 : decode cX11_birth 18 = .ok (.ireturn, 1) := by decide +kernel
theorem dX11_birth_19 : decode cX11_birth 19 = .ok (.iload_n 2, 1) := by decide +kernel
theorem dX11_birth_20 : decode cX11_birth 20 = .ok (.i2l, 1) := by decide +kernel
theorem dX11_birth_21 : decode cX11_birth 21 = .ok (.lconst 0, 1) := by decide +kernel
theorem dX11_birth_22 : decode cX11_birth 22 = .ok (.ldc2_w 126, 3) := by decide +kernel
theorem dX11_birth_25 : decode cX11_birth 25 = .ok (.invokestatic 70, 3) := by decide +kernel
theorem dX11_birth_28 : decode cX11_birth 28 = .ok (.ifCond .eq 17, 3) := by decide +kernel
theorem dX11_birth_31 : decode cX11_birth 31 = .ok (.aload_n 0, 1) := by decide +kernel
theorem dX11_birth_32 : decode cX11_birth 32 = .ok (.getfield 22, 3) := by decide +kernel
theorem dX11_birth_35 : decode cX11_birth 35 = .ok (.bipush 7, 2) := by decide +kernel
theorem dX11_birth_37 : decode cX11_birth 37 = .ok (.iload_n 1, 1) := by decide +kernel
theorem dX11_birth_38 : decode cX11_birth 38 = .ok (.imul, 1) := by decide +kernel
theorem dX11_birth_39 : decode cX11_birth 39 = .ok (.iload_n 2, 1) := by decide +kernel
theorem dX11_birth_40 : decode cX11_birth 40 = .ok (.iadd, 1) := by decide +kernel
theorem dX11_birth_41 : decode cX11_birth 41 = .ok (.iaload, 1) := by decide +kernel
theorem dX11_birth_42 : decode cX11_birth 42 = .ok (.goto 5, 3) := by decide +kernel
theorem dX11_birth_45 : decode cX11_birth 45 = .ok (.bipush (-102), 2) := by decide +kernel
theorem dX11_birth_47 : decode cX11_birth 47 = .ok (.ireturn, 1) := by decide +kernel
theorem dX11_as_0 : decode cX11_as 0 = .ok (.iload_n 1, 1) := by decide +kernel
theorem dX11_as_1 : decode cX11_as 1 = .ok (.i2l, 1) := by decide +kernel
theorem dX11_as_2 : decode cX11_as 2 = .ok (.lconst 0, 1) := by decide +kernel
theorem dX11_as_3 : decode cX11_as 3 = .ok (.aload_n 0, 1) := by decide +kernel
theorem dX11_as_4 : decode cX11_as 4 = .ok (.getfield 117, 3) := by decide +kernel
theorem dX11_as_7 : decode cX11_as 7 = .ok (.iconst 1, 1) := by decide +kernel
theorem dX11_as_8 : decode cX11_as 8 = .ok (.isub, 1) := by decide +kernel
theorem dX11_as_9 : decode cX11_as 9 = .ok (.i2l, 1) := by decide +kernel
theorem dX11_as_10 : decode cX11_as 10 = .ok (.invokestatic 70, 3) := by decide +kernel
theorem dX11_as_13 : decode cX11_as 13 = .ok (.ifCond .ne 6, 3) := by decide +kernel
theorem dX11_as_16 : decode cX11_as 16 = .ok (.bipush (-101), 2) := by decide +kernel
theorem dX11_as_18 : decode cX11_as 18 = .ok (.ireturn, 1) := by decide +kernel
theorem dX11_as_19 : decode cX11_as 19 = .ok (.iload_n 2, 1) := by decide +kernel
theorem dX11_as_20 : decode cX11_as 20 = .ok (.i2l, 1) := by decide +kernel
theorem dX11_as_21 : decode cX11_as 21 = .ok (.lconst 0, 1) := by decide +kernel
theorem dX11_as_22 : decode cX11_as 22 = .ok (.ldc2_w 128, 3) := by decide +kernel
theorem dX11_as_25 : decode cX11_as 25 = .ok (.invokestatic 70, 3) := by decide +kernel
theorem dX11_as_28 : decode cX11_as 28 = .ok (.ifCond .ne 6, 3) := by decide +kernel
theorem dX11_as_31 : decode cX11_as 31 = .ok (.bipush (-102), 2) := by decide +kernel
theorem dX11_as_33 : decode cX11_as 33 = .ok (.ireturn, 1) := by decide +kernel
theorem dX11_as_34 : decode cX11_as 34 = .ok (.aload_n 0, 1) := by decide +kernel
theorem dX11_as_35 : decode cX11_as 35 = .ok (.getfield 22, 3) := by decide +kernel
theorem dX11_as_38 : decode cX11_as 38 = .ok (.bipush 7, 2) := by decide +kernel
theorem dX11_as_40 : decode cX11_as 40 = .ok (.iload_n 1, 1) := by decide +kernel
theorem dX11_as_41 : decode cX11_as 41 = .ok (.imul, 1) := by decide +kernel
theorem dX11_as_42 : decode cX11_as 42 = .ok (.iaload, 1) := by decide +kernel
theorem dX11_as_43 : decode cX11_as 43 = .ok (.istore_n 3, 1) := by decide +kernel
theorem dX11_as_44 : decode cX11_as 44 = .ok (.iload_n 2, 1) := by decide +kernel
theorem dX11_as_45 : decode cX11_as 45 = .ok (.ifCond .eq 8, 3) := by decide +kernel
theorem dX11_as_48 : decode cX11_as 48 = .ok (.iload_n 2, 1) := by decide +kernel
theorem dX11_as_49 : decode cX11_as 49 = .ok (.iload_n 3, 1) := by decide +kernel
theorem dX11_as_50 : decode cX11_as 50 = .ok (.if_icmp .ne 7, 3) := by decide +kernel
theorem dX11_as_53 : decode cX11_as 53 = .ok (.iconst 1, 1) := by decide +kernel
theorem dX11_as_54 : decode cX11_as 54 = .ok (.goto 4, 3) := by decide +kernel
theorem dX11_as_57 : decode cX11_as 57 = .ok (.iconst 0, 1) := by decide +kernel
theorem dX11_as_58 : decode cX11_as 58 = .ok (.istore 4, 2) := by decide +kernel
theorem dX11_as_60 : decode cX11_as 60 = .ok (.iload 4, 2) := by decide +kernel
theorem dX11_as_62 : decode cX11_as 62 = .ok (.ifCond .eq 7, 3) := by decide +kernel
theorem dX11_as_65 : decode cX11_as 65 = .ok (.iload_n 1, 1) := by decide +kernel
theorem dX11_as_66 : decode cX11_as 66 = .ok (.goto 4, 3) := by decide +kernel
theorem dX11_as_69 : decode cX11_as 69 = .ok (.iconst (-1), 1) := by decide +kernel
theorem dX11_as_70 : decode cX11_as 70 = .ok (.ireturn, 1) := by decide +kernel
theorem dX11_touchedBy_0 : decode cX11_touchedBy 0 = .ok (.iconst 0, 1) := by decide +kernel
theorem dX11_touchedBy_1 : decode cX11_touchedBy 1 = .ok (.istore_n 3, 1) := by decide +kernel
theorem dX11_touchedBy_2 : decode cX11_touchedBy 2 = .ok (.iconst 0, 1) := by decide +kernel
theorem dX11_touchedBy_3 : decode cX11_touchedBy 3 = .ok (.istore 4, 2) := by decide +kernel
theorem dX11_touchedBy_5 : decode cX11_touchedBy 5 = .ok (.iload 4, 2) := by decide +kernel
theorem dX11_touchedBy_7 : decode cX11_touchedBy 7 = .ok (.iload_n 2, 1) := by decide +kernel
theorem dX11_touchedBy_8 : decode cX11_touchedBy 8 = .ok (.if_icmp .ge 30, 3) := by decide +kernel
theorem dX11_touchedBy_11 : decode cX11_touchedBy 11 = .ok (.iload_n 3, 1) := by decide +kernel
theorem dX11_touchedBy_12 : decode cX11_touchedBy 12 = .ok (.aload_n 0, 1) := by decide +kernel
theorem dX11_touchedBy_13 : decode cX11_touchedBy 13 = .ok (.getfield 28, 3) := by decide +kernel
theorem dX11_touchedBy_16 : decode cX11_touchedBy 16 = .ok (.iconst 2, 1) := by decide +kernel
theorem dX11_touchedBy_17 : decode cX11_touchedBy 17 = .ok (.iload 4, 2) := by decide +kernel
theorem dX11_touchedBy_19 : decode cX11_touchedBy 19 = .ok (.imul, 1) := by decide +kernel
theorem dX11_touchedBy_20 : decode cX11_touchedBy 20 = .ok (.iaload, 1) := by decide +kernel
theorem dX11_touchedBy_21 : decode cX11_touchedBy 21 = .ok (.iload_n 1, 1) := by decide +kernel
theorem dX11_touchedBy_22 : decode cX11_touchedBy 22 = .ok (.if_icmp .ne 7, 3) := by decide +kernel
theorem dX11_touchedBy_25 : decode cX11_touchedBy 25 = .ok (.iconst 1, 1) := by decide +kernel
theorem dX11_touchedBy_26 : decode cX11_touchedBy 26 = .ok (.goto 4, 3) := by decide +kernel
theorem dX11_touchedBy_29 : decode cX11_touchedBy 29 = .ok (.iconst 0, 1) := by decide +kernel
theorem dX11_touchedBy_30 : decode cX11_touchedBy 30 = .ok (.iadd, 1) := by decide +kernel
theorem dX11_touchedBy_31 : decode cX11_touchedBy 31 = .ok (.istore_n 3, 1) := by decide +kernel
theorem dX11_touchedBy_32 : decode cX11_touchedBy 32 = .ok (.iinc 4 1, 3) := by decide +kernel
theorem dX11_touchedBy_35 : decode cX11_touchedBy 35 = .ok (.goto (-30), 3) := by decide +kernel
theorem dX11_touchedBy_38 : decode cX11_touchedBy 38 = .ok (.iload_n 3, 1) := by decide +kernel
theorem dX11_touchedBy_39 : decode cX11_touchedBy 39 = .ok (.ireturn, 1) := by decide +kernel
theorem dX11_tellPerson_0 : decode cX11_tellPerson 0 = .ok (.iload_n 2, 1) := by decide +kernel
theorem dX11_tellPerson_1 : decode cX11_tellPerson 1 = .ok (.ifCond .ne 12, 3) := by decide +kernel
theorem dX11_tellPerson_4 : decode cX11_tellPerson 4 = .ok (.aload_n 0, 1) := by decide +kernel
theorem dX11_tellPerson_5 : decode cX11_tellPerson 5 = .ok (.getfield 13, 3) := by decide +kernel
theorem dX11_tellPerson_8 : decode cX11_tellPerson 8 = .ok (.iload_n 1, 1) := by decide +kernel
theorem dX11_tellPerson_9 : decode cX11_tellPerson 9 = .ok (.iaload, 1) := by decide +kernel
theorem dX11_tellPerson_10 : decode cX11_tellPerson 10 = .ok (.goto 36, 3) := by decide +kernel
theorem dX11_tellPerson_13 : decode cX11_tellPerson 13 = .ok (.iload_n 2, 1) := by decide +kernel
theorem dX11_tellPerson_14 : decode cX11_tellPerson 14 = .ok (.iconst 1, 1) := by decide +kernel
theorem dX11_tellPerson_15 : decode cX11_tellPerson 15 = .ok (.if_icmp .ne 12, 3) := by decide +kernel
theorem dX11_tellPerson_18 : decode cX11_tellPerson 18 = .ok (.aload_n 0, 1) := by decide +kernel
theorem dX11_tellPerson_19 : decode cX11_tellPerson 19 = .ok (.getfield 25, 3) := by decide +kernel
theorem dX11_tellPerson_22 : decode cX11_tellPerson 22 = .ok (.iload_n 1, 1) := by decide +kernel
theorem dX11_tellPerson_23 : decode cX11_tellPerson 23 = .ok (.iaload, 1) := by decide +kernel
theorem dX11_tellPerson_24 : decode cX11_tellPerson 24 = .ok (.goto 22, 3) := by decide +kernel
theorem dX11_tellPerson_27 : decode cX11_tellPerson 27 = .ok (.iload_n 2, 1) := by decide +kernel
theorem dX11_tellPerson_28 : decode cX11_tellPerson 28 = .ok (.iconst 2, 1) := by decide +kernel
theorem dX11_tellPerson_29 : decode cX11_tellPerson 29 = .ok (.if_icmp .ne 15, 3) := by decide +kernel
theorem dX11_tellPerson_32 : decode cX11_tellPerson 32 = .ok (.aload_n 0, 1) := by decide +kernel
theorem dX11_tellPerson_33 : decode cX11_tellPerson 33 = .ok (.iload_n 1, 1) := by decide +kernel
theorem dX11_tellPerson_34 : decode cX11_tellPerson 34 = .ok (.aload_n 0, 1) := by decide +kernel
theorem dX11_tellPerson_35 : decode cX11_tellPerson 35 = .ok (.getfield 120, 3) := by decide +kernel
theorem dX11_tellPerson_38 : decode cX11_tellPerson 38 = .ok (.invokevirtual 130, 3) := by decide +kernel
theorem dX11_tellPerson_41 : decode cX11_tellPerson 41 = .ok (.goto 5, 3) := by decide +kernel
theorem dX11_tellPerson_44 : decode cX11_tellPerson 44 = .ok (.bipush (-102), 2) := by decide +kernel
theorem dX11_tellPerson_46 : decode cX11_tellPerson 46 = .ok (.ireturn, 1) := by decide +kernel
theorem dX11_about_0 : decode cX11_about 0 = .ok (.iload_n 1, 1) := by decide +kernel
theorem dX11_about_1 : decode cX11_about 1 = .ok (.invokestatic 82, 3) := by decide +kernel
theorem dX11_about_4 : decode cX11_about 4 = .ok (.ifCond .eq 12, 3) := by decide +kernel
theorem dX11_about_7 : decode cX11_about 7 = .ok (.aload_n 0, 1) := by decide +kernel
theorem dX11_about_8 : decode cX11_about 8 = .ok (.iload_n 1, 1) := by decide +kernel
theorem dX11_about_9 : decode cX11_about 9 = .ok (.iload_n 2, 1) := by decide +kernel
theorem dX11_about_10 : decode cX11_about 10 = .ok (.invokevirtual 134, 3) := by decide +kernel
theorem dX11_about_13 : decode cX11_about 13 = .ok (.goto 5, 3) := by decide +kernel
theorem dX11_about_16 : decode cX11_about 16 = .ok (.bipush (-101), 2) := by decide +kernel
theorem dX11_about_18 : decode cX11_about 18 = .ok (.ireturn, 1) := by decide +kernel
theorem dX11_touch_0 : decode cX11_touch 0 = .ok (.iload_n 1, 1) := by decide +kernel
theorem dX11_touch_1 : decode cX11_touch 1 = .ok (.invokestatic 82, 3) := by decide +kernel
theorem dX11_touch_4 : decode cX11_touch 4 = .ok (.ifCond .ne 6, 3) := by decide +kernel
theorem dX11_touch_7 : decode cX11_touch 7 = .ok (.bipush (-101), 2) := by decide +kernel
theorem dX11_touch_9 : decode cX11_touch 9 = .ok (.ireturn, 1) := by decide +kernel
theorem dX11_touch_10 : decode cX11_touch 10 = .ok (.iload_n 2, 1) := by decide +kernel
theorem dX11_touch_11 : decode cX11_touch 11 = .ok (.i2l, 1) := by decide +kernel
theorem dX11_touch_12 : decode cX11_touch 12 = .ok (.lconst 0, 1) := by decide +kernel
theorem dX11_touch_13 : decode cX11_touch 13 = .ok (.ldc2_w 137, 3) := by decide +kernel
theorem dX11_touch_16 : decode cX11_touch 16 = .ok (.invokestatic 70, 3) := by decide +kernel
theorem dX11_touch_19 : decode cX11_touch 19 = .ok (.ifCond .ne 6, 3) := by decide +kernel
theorem dX11_touch_22 : decode cX11_touch 22 = .ok (.bipush (-102), 2) := by decide +kernel
theorem dX11_touch_24 : decode cX11_touch 24 = .ok (.ireturn, 1) := by decide +kernel
theorem dX11_touch_25 : decode cX11_touch 25 = .ok (.aload_n 0, 1) := by decide +kernel
theorem dX11_touch_26 : decode cX11_touch 26 = .ok (.getfield 120, 3) := by decide +kernel
theorem dX11_touch_29 : decode cX11_touch 29 = .ok (.bipush 12, 2) := by decide +kernel
theorem dX11_touch_31 : decode cX11_touch 31 = .ok (.if_icmp .ne 6, 3) := by decide +kernel
theorem dX11_touch_34 : decode cX11_touch 34 = .ok (.bipush (-104), 2) := by decide +kernel
theorem dX11_touch_36 : decode cX11_touch 36 = .ok (.ireturn, 1) := by decide +kernel
theorem dX11_touch_37 : decode cX11_touch 37 = .ok (.aload_n 0, 1) := by decide +kernel
theorem dX11_touch_38 : decode cX11_touch 38 = .ok (.getfield 28, 3) := by decide +kernel
theorem dX11_touch_41 : decode cX11_touch 41 = .ok (.iconst 2, 1) := by decide +kernel
theorem dX11_touch_42 : decode cX11_touch 42 = .ok (.aload_n 0, 1) := by decide +kernel
theorem dX11_touch_43 : decode cX11_touch 43 = .ok (.getfield 120, 3) := by decide +kernel
theorem dX11_touch_46 : decode cX11_touch 46 = .ok (.imul, 1) := by decide +kernel
theorem dX11_touch_47 : decode cX11_touch 47 = .ok (.iload_n 1, 1) := by decide +kernel
theorem dX11_touch_48 : decode cX11_touch 48 = .ok (.iastore, 1) := by decide +kernel
theorem dX11_touch_49 : decode cX11_touch 49 = .ok (.aload_n 0, 1) := by decide +kernel
theorem dX11_touch_50 : decode cX11_touch 50 = .ok (.getfield 28, 3) := by decide +kernel
theorem dX11_touch_53 : decode cX11_touch 53 = .ok (.iconst 2, 1) := by decide +kernel
theorem dX11_touch_54 : decode cX11_touch 54 = .ok (.aload_n 0, 1) := by decide +kernel
theorem dX11_touch_55 : decode cX11_touch 55 = .ok (.getfield 120, 3) := by decide +kernel
theorem dX11_touch_58 : decode cX11_touch 58 = .ok (.imul, 1) := by decide +kernel
theorem dX11_touch_59 : decode cX11_touch 59 = .ok (.iconst 1, 1) := by decide +kernel
theorem dX11_touch_60 : decode cX11_touch 60 = .ok (.iadd, 1) := by decide +kernel
theorem dX11_touch_61 : decode cX11_touch 61 = .ok (.iload_n 2, 1) := by decide +kernel
theorem dX11_touch_62 : decode cX11_touch 62 = .ok (.iastore, 1) := by decide +kernel
theorem dX11_touch_63 : decode cX11_touch 63 = .ok (.aload_n 0, 1) := by decide +kernel
theorem dX11_touch_64 : decode cX11_touch 64 = .ok (.dup, 1) := by decide +kernel
theorem dX11_touch_65 : decode cX11_touch 65 = .ok (.getfield 120, 3) := by decide +kernel
theorem dX11_touch_68 : decode cX11_touch 68 = .ok (.iconst 1, 1) := by decide +kernel
theorem dX11_touch_69 : decode cX11_touch 69 = .ok (.iadd, 1) := by decide +kernel
theorem dX11_touch_70 : decode cX11_touch 70 = .ok (.putfield 120, 3) := by decide +kernel
theorem dX11_touch_73 : decode cX11_touch 73 = .ok (.aload_n 0, 1) := by decide +kernel
theorem dX11_touch_74 : decode cX11_touch 74 = .ok (.getfield 120, 3) := by decide +kernel
theorem dX11_touch_77 : decode cX11_touch 77 = .ok (.ireturn, 1) := by decide +kernel
theorem dX11_forget_0 : decode cX11_forget 0 = .ok (.aload_n 0, 1) := by decide +kernel
theorem dX11_forget_1 : decode cX11_forget 1 = .ok (.getfield 120, 3) := by decide +kernel
theorem dX11_forget_4 : decode cX11_forget 4 = .ok (.istore_n 1, 1) := by decide +kernel
theorem dX11_forget_5 : decode cX11_forget 5 = .ok (.aload_n 0, 1) := by decide +kernel
theorem dX11_forget_6 : decode cX11_forget 6 = .ok (.iconst 0, 1) := by decide +kernel
theorem dX11_forget_7 : decode cX11_forget 7 = .ok (.putfield 120, 3) := by decide +kernel
theorem dX11_forget_10 : decode cX11_forget 10 = .ok (.iload_n 1, 1) := by decide +kernel
theorem dX11_forget_11 : decode cX11_forget 11 = .ok (.ireturn, 1) := by decide +kernel
theorem dX11_placeIn_0 : decode cX11_placeIn 0 = .ok (.iconst (-1), 1) := by decide +kernel
theorem dX11_placeIn_1 : decode cX11_placeIn 1 = .ok (.istore_n 3, 1) := by decide +kernel
theorem dX11_placeIn_2 : decode cX11_placeIn 2 = .ok (.iconst 0, 1) := by decide +kernel
theorem dX11_placeIn_3 : decode cX11_placeIn 3 = .ok (.istore 4, 2) := by decide +kernel
theorem dX11_placeIn_5 : decode cX11_placeIn 5 = .ok (.iload 4, 2) := by decide +kernel
theorem dX11_placeIn_7 : decode cX11_placeIn 7 = .ok (.aload_n 0, 1) := by decide +kernel
theorem dX11_placeIn_8 : decode cX11_placeIn 8 = .ok (.getfield 22, 3) := by decide +kernel
theorem dX11_placeIn_11 : decode cX11_placeIn 11 = .ok (.bipush 7, 2) := by decide +kernel
theorem dX11_placeIn_13 : decode cX11_placeIn 13 = .ok (.iload_n 1, 1) := by decide +kernel
theorem dX11_placeIn_14 : decode cX11_placeIn 14 = .ok (.imul, 1) := by decide +kernel
theorem dX11_placeIn_15 : decode cX11_placeIn 15 = .ok (.iconst 1, 1) := by decide +kernel
theorem dX11_placeIn_16 : decode cX11_placeIn 16 = .ok (.iadd, 1) := by decide +kernel
theorem dX11_placeIn_17 : decode cX11_placeIn 17 = .ok (.iaload, 1) := by decide +kernel
theorem dX11_placeIn_18 : decode cX11_placeIn 18 = .ok (.if_icmp .ge 34, 3) := by decide +kernel
theorem dX11_placeIn_21 : decode cX11_placeIn 21 = .ok (.aload_n 0, 1) := by decide +kernel
theorem dX11_placeIn_22 : decode cX11_placeIn 22 = .ok (.getfield 22, 3) := by decide +kernel
theorem dX11_placeIn_25 : decode cX11_placeIn 25 = .ok (.bipush 7, 2) := by decide +kernel
theorem dX11_placeIn_27 : decode cX11_placeIn 27 = .ok (.iload_n 1, 1) := by decide +kernel
theorem dX11_placeIn_28 : decode cX11_placeIn 28 = .ok (.imul, 1) := by decide +kernel
theorem dX11_placeIn_29 : decode cX11_placeIn 29 = .ok (.iconst 3, 1) := by decide +kernel
theorem dX11_placeIn_30 : decode cX11_placeIn 30 = .ok (.iadd, 1) := by decide +kernel
theorem dX11_placeIn_31 : decode cX11_placeIn 31 = .ok (.iload 4, 2) := by decide +kernel
theorem dX11_placeIn_33 : decode cX11_placeIn 33 = .ok (.iadd, 1) := by decide +kernel
theorem dX11_placeIn_34 : decode cX11_placeIn 34 = .ok (.iaload, 1) := by decide +kernel
theorem dX11_placeIn_35 : decode cX11_placeIn 35 = .ok (.iload_n 2, 1) := by decide +kernel
theorem dX11_placeIn_36 : decode cX11_placeIn 36 = .ok (.if_icmp .ne 8, 3) := by decide +kernel
theorem dX11_placeIn_39 : decode cX11_placeIn 39 = .ok (.iload 4, 2) := by decide +kernel
theorem dX11_placeIn_41 : decode cX11_placeIn 41 = .ok (.goto 4, 3) := by decide +kernel
theorem dX11_placeIn_44 : decode cX11_placeIn 44 = .ok (.iload_n 3, 1) := by decide +kernel
theorem dX11_placeIn_45 : decode cX11_placeIn 45 = .ok (.istore_n 3, 1) := by decide +kernel
theorem dX11_placeIn_46 : decode cX11_placeIn 46 = .ok (.iinc 4 1, 3) := by decide +kernel
theorem dX11_placeIn_49 : decode cX11_placeIn 49 = .ok (.goto (-44), 3) := by decide +kernel
theorem dX11_placeIn_52 : decode cX11_placeIn 52 = .ok (.iload_n 3, 1) := by decide +kernel
theorem dX11_placeIn_53 : decode cX11_placeIn 53 = .ok (.ireturn, 1) := by decide +kernel
theorem dX11_lateBy_0 : decode cX11_lateBy 0 = .ok (.aload_n 0, 1) := by decide +kernel
theorem dX11_lateBy_1 : decode cX11_lateBy 1 = .ok (.getfield 25, 3) := by decide +kernel
theorem dX11_lateBy_4 : decode cX11_lateBy 4 = .ok (.iload_n 2, 1) := by decide +kernel
theorem dX11_lateBy_5 : decode cX11_lateBy 5 = .ok (.iaload, 1) := by decide +kernel
theorem dX11_lateBy_6 : decode cX11_lateBy 6 = .ok (.istore_n 3, 1) := by decide +kernel
theorem dX11_lateBy_7 : decode cX11_lateBy 7 = .ok (.iload_n 3, 1) := by decide +kernel
theorem dX11_lateBy_8 : decode cX11_lateBy 8 = .ok (.iconst (-1), 1) := by decide +kernel
theorem dX11_lateBy_9 : decode cX11_lateBy 9 = .ok (.if_icmp .eq 18, 3) := by decide +kernel
theorem dX11_lateBy_12 : decode cX11_lateBy 12 = .ok (.aload_n 0, 1) := by decide +kernel
theorem dX11_lateBy_13 : decode cX11_lateBy 13 = .ok (.getfield 25, 3) := by decide +kernel
theorem dX11_lateBy_16 : decode cX11_lateBy 16 = .ok (.iload_n 1, 1) := by decide +kernel
theorem dX11_lateBy_17 : decode cX11_lateBy 17 = .ok (.iaload, 1) := by decide +kernel
theorem dX11_lateBy_18 : decode cX11_lateBy 18 = .ok (.iload_n 3, 1) := by decide +kernel
theorem dX11_lateBy_19 : decode cX11_lateBy 19 = .ok (.if_icmp .ne 8, 3) := by decide +kernel
theorem dX11_lateBy_22 : decode cX11_lateBy 22 = .ok (.iload_n 1, 1) := by decide +kernel
theorem dX11_lateBy_23 : decode cX11_lateBy 23 = .ok (.iload_n 2, 1) := by decide +kernel
theorem dX11_lateBy_24 : decode cX11_lateBy 24 = .ok (.if_icmp .ne 5, 3) := by decide +kernel
theorem dX11_lateBy_27 : decode cX11_lateBy 27 = .ok (.iconst (-1), 1) := by decide +kernel
theorem dX11_lateBy_28 : decode cX11_lateBy 28 = .ok (.ireturn, 1) := by decide +kernel
theorem dX11_lateBy_29 : decode cX11_lateBy 29 = .ok (.aload_n 0, 1) := by decide +kernel
theorem dX11_lateBy_30 : decode cX11_lateBy 30 = .ok (.getfield 22, 3) := by decide +kernel
theorem dX11_lateBy_33 : decode cX11_lateBy 33 = .ok (.bipush 7, 2) := by decide +kernel
theorem dX11_lateBy_35 : decode cX11_lateBy 35 = .ok (.iload_n 3, 1) := by decide +kernel
theorem dX11_lateBy_36 : decode cX11_lateBy 36 = .ok (.imul, 1) := by decide +kernel
theorem dX11_lateBy_37 : decode cX11_lateBy 37 = .ok (.iconst 1, 1) := by decide +kernel
theorem dX11_lateBy_38 : decode cX11_lateBy 38 = .ok (.iadd, 1) := by decide +kernel
theorem dX11_lateBy_39 : decode cX11_lateBy 39 = .ok (.iaload, 1) := by decide +kernel
theorem dX11_lateBy_40 : decode cX11_lateBy 40 = .ok (.istore 4, 2) := by decide +kernel
theorem dX11_lateBy_42 : decode cX11_lateBy 42 = .ok (.aload_n 0, 1) := by decide +kernel
theorem dX11_lateBy_43 : decode cX11_lateBy 43 = .ok (.getfield 22, 3) := by decide +kernel
theorem dX11_lateBy_46 : decode cX11_lateBy 46 = .ok (.bipush 7, 2) := by decide +kernel
theorem dX11_lateBy_48 : decode cX11_lateBy 48 = .ok (.iload_n 3, 1) := by decide +kernel
theorem dX11_lateBy_49 : decode cX11_lateBy 49 = .ok (.imul, 1) := by decide +kernel
theorem dX11_lateBy_50 : decode cX11_lateBy 50 = .ok (.iaload, 1) := by decide +kernel
theorem dX11_lateBy_51 : decode cX11_lateBy 51 = .ok (.istore 5, 2) := by decide +kernel
theorem dX11_lateBy_53 : decode cX11_lateBy 53 = .ok (.aload_n 0, 1) := by decide +kernel
theorem dX11_lateBy_54 : decode cX11_lateBy 54 = .ok (.iload_n 3, 1) := by decide +kernel
theorem dX11_lateBy_55 : decode cX11_lateBy 55 = .ok (.iload_n 2, 1) := by decide +kernel
theorem dX11_lateBy_56 : decode cX11_lateBy 56 = .ok (.invokevirtual 139, 3) := by decide +kernel
theorem dX11_lateBy_59 : decode cX11_lateBy 59 = .ok (.aload_n 0, 1) := by decide +kernel
theorem dX11_lateBy_60 : decode cX11_lateBy 60 = .ok (.iload_n 3, 1) := by decide +kernel
theorem dX11_lateBy_61 : decode cX11_lateBy 61 = .ok (.iload_n 1, 1) := by decide +kernel
theorem dX11_lateBy_62 : decode cX11_lateBy 62 = .ok (.invokevirtual 139, 3) := by decide +kernel
theorem dX11_lateBy_65 : decode cX11_lateBy 65 = .ok (.isub, 1) := by decide +kernel
theorem dX11_lateBy_66 : decode cX11_lateBy 66 = .ok (.iload 4, 2) := by decide +kernel
theorem dX11_lateBy_68 : decode cX11_lateBy 68 = .ok (.iadd, 1) := by decide +kernel
theorem dX11_lateBy_69 : decode cX11_lateBy 69 = .ok (.iload 4, 2) := by decide +kernel
theorem dX11_lateBy_71 : decode cX11_lateBy 71 = .ok (.irem, 1) := by decide +kernel
theorem dX11_lateBy_72 : decode cX11_lateBy 72 = .ok (.istore 6, 2) := by decide +kernel
theorem dX11_lateBy_74 : decode cX11_lateBy 74 = .ok (.iload 5, 2) := by decide +kernel
theorem dX11_lateBy_76 : decode cX11_lateBy 76 = .ok (.iconst 1, 1) := by decide +kernel
theorem dX11_lateBy_77 : decode cX11_lateBy 77 = .ok (.if_icmp .ne 8, 3) := by decide +kernel
theorem dX11_lateBy_80 : decode cX11_lateBy 80 = .ok (.iload 6, 2) := by decide +kernel
theorem dX11_lateBy_82 : decode cX11_lateBy 82 = .ok (.goto 24, 3) := by decide +kernel
theorem dX11_lateBy_85 : decode cX11_lateBy 85 = .ok (.iload 5, 2) := by decide +kernel
theorem dX11_lateBy_87 : decode cX11_lateBy 87 = .ok (.iconst 3, 1) := by decide +kernel
theorem dX11_lateBy_88 : decode cX11_lateBy 88 = .ok (.if_icmp .ne 17, 3) := by decide +kernel
theorem dX11_lateBy_91 : decode cX11_lateBy 91 = .ok (.aload_n 0, 1) := by decide +kernel
theorem dX11_lateBy_92 : decode cX11_lateBy 92 = .ok (.getfield 22, 3) := by decide +kernel
theorem dX11_lateBy_95 : decode cX11_lateBy 95 = .ok (.bipush 7, 2) := by decide +kernel
theorem dX11_lateBy_97 : decode cX11_lateBy 97 = .ok (.iload_n 3, 1) := by decide +kernel
theorem dX11_lateBy_98 : decode cX11_lateBy 98 = .ok (.imul, 1) := by decide +kernel
theorem dX11_lateBy_99 : decode cX11_lateBy 99 = .ok (.iconst 2, 1) := by decide +kernel
theorem dX11_lateBy_100 : decode cX11_lateBy 100 = .ok (.iadd, 1) := by decide +kernel
theorem dX11_lateBy_101 : decode cX11_lateBy 101 = .ok (.iaload, 1) := by decide +kernel
theorem dX11_lateBy_102 : decode cX11_lateBy 102 = .ok (.goto 4, 3) := by decide +kernel
theorem dX11_lateBy_105 : decode cX11_lateBy 105 = .ok (.iconst 0, 1) := by decide +kernel
theorem dX11_lateBy_106 : decode cX11_lateBy 106 = .ok (.ireturn, 1) := by decide +kernel
theorem dX11_feltOf_0 : decode cX11_feltOf 0 = .ok (.iconst 0, 1) := by decide +kernel
theorem dX11_feltOf_1 : decode cX11_feltOf 1 = .ok (.istore 5, 2) := by decide +kernel
theorem dX11_feltOf_3 : decode cX11_feltOf 3 = .ok (.iconst 0, 1) := by decide +kernel
theorem dX11_feltOf_4 : decode cX11_feltOf 4 = .ok (.istore 6, 2) := by decide +kernel
theorem dX11_feltOf_6 : decode cX11_feltOf 6 = .ok (.iload 6, 2) := by decide +kernel
theorem dX11_feltOf_8 : decode cX11_feltOf 8 = .ok (.iload 4, 2) := by decide +kernel
theorem dX11_feltOf_10 : decode cX11_feltOf 10 = .ok (.if_icmp .ge 66, 3) := by decide +kernel
theorem dX11_feltOf_13 : decode cX11_feltOf 13 = .ok (.aload_n 0, 1) := by decide +kernel
theorem dX11_feltOf_14 : decode cX11_feltOf 14 = .ok (.aload_n 0, 1) := by decide +kernel
theorem dX11_feltOf_15 : decode cX11_feltOf 15 = .ok (.getfield 28, 3) := by decide +kernel
theorem dX11_feltOf_18 : decode cX11_feltOf 18 = .ok (.iconst 2, 1) := by decide +kernel
theorem dX11_feltOf_19 : decode cX11_feltOf 19 = .ok (.iload 6, 2) := by decide +kernel
theorem dX11_feltOf_21 : decode cX11_feltOf 21 = .ok (.imul, 1) := by decide +kernel
theorem dX11_feltOf_22 : decode cX11_feltOf 22 = .ok (.iaload, 1) := by decide +kernel
theorem dX11_feltOf_23 : decode cX11_feltOf 23 = .ok (.iload_n 1, 1) := by decide +kernel
theorem dX11_feltOf_24 : decode cX11_feltOf 24 = .ok (.invokevirtual 142, 3) := by decide +kernel
theorem dX11_feltOf_27 : decode cX11_feltOf 27 = .ok (.istore 7, 2) := by decide +kernel
theorem dX11_feltOf_29 : decode cX11_feltOf 29 = .ok (.iload 5, 2) := by decide +kernel
theorem dX11_feltOf_31 : decode cX11_feltOf 31 = .ok (.iload 7, 2) := by decide +kernel
theorem dX11_feltOf_33 : decode cX11_feltOf 33 = .ok (.iconst (-1), 1) := by decide +kernel
theorem dX11_feltOf_34 : decode cX11_feltOf 34 = .ok (.if_icmp .eq 32, 3) := by decide +kernel
theorem dX11_feltOf_37 : decode cX11_feltOf 37 = .ok (.aload_n 0, 1) := by decide +kernel
theorem dX11_feltOf_38 : decode cX11_feltOf 38 = .ok (.getfield 28, 3) := by decide +kernel
theorem dX11_feltOf_41 : decode cX11_feltOf 41 = .ok (.iconst 2, 1) := by decide +kernel
theorem dX11_feltOf_42 : decode cX11_feltOf 42 = .ok (.iload 6, 2) := by decide +kernel
theorem dX11_feltOf_44 : decode cX11_feltOf 44 = .ok (.imul, 1) := by decide +kernel
theorem dX11_feltOf_45 : decode cX11_feltOf 45 = .ok (.iconst 1, 1) := by decide +kernel
theorem dX11_feltOf_46 : decode cX11_feltOf 46 = .ok (.iadd, 1) := by decide +kernel
theorem dX11_feltOf_47 : decode cX11_feltOf 47 = .ok (.iaload, 1) := by decide +kernel
theorem dX11_feltOf_48 : decode cX11_feltOf 48 = .ok (.iload 7, 2) := by decide +kernel
theorem dX11_feltOf_50 : decode cX11_feltOf 50 = .ok (.iadd, 1) := by decide +kernel
theorem dX11_feltOf_51 : decode cX11_feltOf 51 = .ok (.i2l, 1) := by decide +kernel
theorem dX11_feltOf_52 : decode cX11_feltOf 52 = .ok (.iload_n 2, 1) := by decide +kernel
theorem dX11_feltOf_53 : decode cX11_feltOf 53 = .ok (.i2l, 1) := by decide +kernel
theorem dX11_feltOf_54 : decode cX11_feltOf 54 = .ok (.iload_n 3, 1) := by decide +kernel
theorem dX11_feltOf_55 : decode cX11_feltOf 55 = .ok (.i2l, 1) := by decide +kernel
theorem dX11_feltOf_56 : decode cX11_feltOf 56 = .ok (.invokestatic 70, 3) := by decide +kernel
theorem dX11_feltOf_59 : decode cX11_feltOf 59 = .ok (.ifCond .eq 7, 3) := by decide +kernel
theorem dX11_feltOf_62 : decode cX11_feltOf 62 = .ok (.iconst 1, 1) := by decide +kernel
theorem dX11_feltOf_63 : decode cX11_feltOf 63 = .ok (.goto 4, 3) := by decide +kernel
theorem dX11_feltOf_66 : decode cX11_feltOf 66 = .ok (.iconst 0, 1) := by decide +kernel
theorem dX11_feltOf_67 : decode cX11_feltOf 67 = .ok (.iadd, 1) := by decide +kernel
theorem dX11_feltOf_68 : decode cX11_feltOf 68 = .ok (.istore 5, 2) := by decide +kernel
theorem dX11_feltOf_70 : decode cX11_feltOf 70 = .ok (.iinc 6 1, 3) := by decide +kernel
theorem dX11_feltOf_73 : decode cX11_feltOf 73 = .ok (.goto (-67), 3) := by decide +kernel
theorem dX11_feltOf_76 : decode cX11_feltOf 76 = .ok (.iload 5, 2) := by decide +kernel
theorem dX11_feltOf_78 : decode cX11_feltOf 78 = .ok (.ireturn, 1) := by decide +kernel
theorem dX11_areMinutes_0 : decode cX11_areMinutes 0 = .ok (.iload_n 0, 1) := by decide +kernel
theorem dX11_areMinutes_1 : decode cX11_areMinutes 1 = .ok (.i2l, 1) := by decide +kernel
theorem dX11_areMinutes_2 : decode cX11_areMinutes 2 = .ok (.lconst 0, 1) := by decide +kernel
theorem dX11_areMinutes_3 : decode cX11_areMinutes 3 = .ok (.ldc2_w 145, 3) := by decide +kernel
theorem dX11_areMinutes_6 : decode cX11_areMinutes 6 = .ok (.invokestatic 70, 3) := by decide +kernel
theorem dX11_areMinutes_9 : decode cX11_areMinutes 9 = .ok (.ifCond .eq 20, 3) := by decide +kernel
theorem dX11_areMinutes_12 : decode cX11_areMinutes 12 = .ok (.iload_n 1, 1) := by decide +kernel
theorem dX11_areMinutes_13 : decode cX11_areMinutes 13 = .ok (.i2l, 1) := by decide +kernel
theorem dX11_areMinutes_14 : decode cX11_areMinutes 14 = .ok (.iload_n 0, 1) := by decide +kernel
theorem dX11_areMinutes_15 : decode cX11_areMinutes 15 = .ok (.i2l, 1) := by decide +kernel
theorem dX11_areMinutes_16 : decode cX11_areMinutes 16 = .ok (.ldc2_w 145, 3) := by decide +kernel
theorem dX11_areMinutes_19 : decode cX11_areMinutes 19 = .ok (.invokestatic 70, 3) := by decide +kernel
theorem dX11_areMinutes_22 : decode cX11_areMinutes 22 = .ok (.ifCond .eq 7, 3) := by decide +kernel
theorem dX11_areMinutes_25 : decode cX11_areMinutes 25 = .ok (.iconst 1, 1) := by decide +kernel
theorem dX11_areMinutes_26 : decode cX11_areMinutes 26 = .ok (.goto 4, 3) := by decide +kernel
theorem dX11_areMinutes_29 : decode cX11_areMinutes 29 = .ok (.iconst 0, 1) := by decide +kernel
theorem dX11_areMinutes_30 : decode cX11_areMinutes 30 = .ok (.ireturn, 1) := by decide +kernel
theorem dX11_felt_0 : decode cX11_felt 0 = .ok (.iload_n 1, 1) := by decide +kernel
theorem dX11_felt_1 : decode cX11_felt 1 = .ok (.invokestatic 82, 3) := by decide +kernel
theorem dX11_felt_4 : decode cX11_felt 4 = .ok (.ifCond .ne 6, 3) := by decide +kernel
theorem dX11_felt_7 : decode cX11_felt 7 = .ok (.bipush (-101), 2) := by decide +kernel
theorem dX11_felt_9 : decode cX11_felt 9 = .ok (.ireturn, 1) := by decide +kernel
theorem dX11_felt_10 : decode cX11_felt 10 = .ok (.iload_n 2, 1) := by decide +kernel
theorem dX11_felt_11 : decode cX11_felt 11 = .ok (.iload_n 3, 1) := by decide +kernel
theorem dX11_felt_12 : decode cX11_felt 12 = .ok (.invokestatic 147, 3) := by decide +kernel
theorem dX11_felt_15 : decode cX11_felt 15 = .ok (.ifCond .eq 17, 3) := by decide +kernel
theorem dX11_felt_18 : decode cX11_felt 18 = .ok (.aload_n 0, 1) := by decide +kernel
theorem dX11_felt_19 : decode cX11_felt 19 = .ok (.iload_n 1, 1) := by decide +kernel
theorem dX11_felt_20 : decode cX11_felt 20 = .ok (.iload_n 2, 1) := by decide +kernel
theorem dX11_felt_21 : decode cX11_felt 21 = .ok (.iload_n 3, 1) := by decide +kernel
theorem dX11_felt_22 : decode cX11_felt 22 = .ok (.aload_n 0, 1) := by decide +kernel
theorem dX11_felt_23 : decode cX11_felt 23 = .ok (.getfield 120, 3) := by decide +kernel
theorem dX11_felt_26 : decode cX11_felt 26 = .ok (.invokevirtual 151, 3) := by decide +kernel
theorem dX11_felt_29 : decode cX11_felt 29 = .ok (.goto 5, 3) := by decide +kernel
theorem dX11_felt_32 : decode cX11_felt 32 = .ok (.bipush (-102), 2) := by decide +kernel
theorem dX11_felt_34 : decode cX11_felt 34 = .ok (.ireturn, 1) := by decide +kernel
theorem dX11_term_0 : decode cX11_term 0 = .ok (.lload_n 0, 1) := by decide +kernel
theorem dX11_term_1 : decode cX11_term 1 = .ok (.lstore 5, 2) := by decide +kernel
theorem dX11_term_3 : decode cX11_term 3 = .ok (.lload_n 2, 1) := by decide +kernel
theorem dX11_term_4 : decode cX11_term 4 = .ok (.lstore 7, 2) := by decide +kernel
theorem dX11_term_6 : decode cX11_term 6 = .ok (.lload 5, 2) := by decide +kernel
theorem dX11_term_8 : decode cX11_term 8 = .ok (.lconst 0, 1) := by decide +kernel
theorem dX11_term_9 : decode cX11_term 9 = .ok (.lcmp, 1) := by decide +kernel
theorem dX11_term_10 : decode cX11_term 10 = .ok (.ifCond .eq 21, 3) := by decide +kernel
theorem dX11_term_13 : decode cX11_term 13 = .ok (.lload 7, 2) := by decide +kernel
theorem dX11_term_15 : decode cX11_term 15 = .ok (.lload 5, 2) := by decide +kernel
theorem dX11_term_17 : decode cX11_term 17 = .ok (.lrem, 1) := by decide +kernel
theorem dX11_term_18 : decode cX11_term 18 = .ok (.lstore 9, 2) := by decide +kernel
theorem dX11_term_20 : decode cX11_term 20 = .ok (.lload 5, 2) := by decide +kernel
theorem dX11_term_22 : decode cX11_term 22 = .ok (.lstore 7, 2) := by decide +kernel
theorem dX11_term_24 : decode cX11_term 24 = .ok (.lload 9, 2) := by decide +kernel
theorem dX11_term_26 : decode cX11_term 26 = .ok (.lstore 5, 2) := by decide +kernel
theorem dX11_term_28 : decode cX11_term 28 = .ok (.goto (-22), 3) := by decide +kernel
theorem dX11_term_31 : decode cX11_term 31 = .ok (.iload 4, 2) := by decide +kernel
theorem dX11_term_33 : decode cX11_term 33 = .ok (.ifCond .ne 10, 3) := by decide +kernel
theorem dX11_term_36 : decode cX11_term 36 = .ok (.lload_n 0, 1) := by decide +kernel
theorem dX11_term_37 : decode cX11_term 37 = .ok (.lload 7, 2) := by decide +kernel
theorem dX11_term_39 : decode cX11_term 39 = .ok (.ldiv, 1) := by decide +kernel
theorem dX11_term_40 : decode cX11_term 40 = .ok (.goto 7, 3) := by decide +kernel
theorem dX11_term_43 : decode cX11_term 43 = .ok (.lload_n 2, 1) := by decide +kernel
theorem dX11_term_44 : decode cX11_term 44 = .ok (.lload 7, 2) := by decide +kernel
theorem dX11_term_46 : decode cX11_term 46 = .ok (.ldiv, 1) := by decide +kernel
theorem dX11_term_47 : decode cX11_term 47 = .ok (.lreturn, 1) := by decide +kernel
theorem dX11_isPart_0 : decode cX11_isPart 0 = .ok (.iload_n 0, 1) := by decide +kernel
theorem dX11_isPart_1 : decode cX11_isPart 1 = .ok (.i2l, 1) := by decide +kernel
theorem dX11_isPart_2 : decode cX11_isPart 2 = .ok (.lconst 0, 1) := by decide +kernel
theorem dX11_isPart_3 : decode cX11_isPart 3 = .ok (.lconst 1, 1) := by decide +kernel
theorem dX11_isPart_4 : decode cX11_isPart 4 = .ok (.invokestatic 70, 3) := by decide +kernel
theorem dX11_isPart_7 : decode cX11_isPart 7 = .ok (.ireturn, 1) := by decide +kernel
theorem dX11_surely_0 : decode cX11_surely 0 = .ok (.iload_n 1, 1) := by decide +kernel
theorem dX11_surely_1 : decode cX11_surely 1 = .ok (.invokestatic 82, 3) := by decide +kernel
theorem dX11_surely_4 : decode cX11_surely 4 = .ok (.ifCond .ne 7, 3) := by decide +kernel
theorem dX11_surely_7 : decode cX11_surely 7 = .ok (.ldc2_w 155, 3) := by decide +kernel
theorem dX11_surely_10 : decode cX11_surely 10 = .ok (.lreturn, 1) := by decide +kernel
theorem dX11_surely_11 : decode cX11_surely 11 = .ok (.iload_n 2, 1) := by decide +kernel
theorem dX11_surely_12 : decode cX11_surely 12 = .ok (.iload_n 3, 1) := by decide +kernel
theorem dX11_surely_13 : decode cX11_surely 13 = .ok (.invokestatic 147, 3) := by decide +kernel
theorem dX11_surely_16 : decode cX11_surely 16 = .ok (.ifCond .eq 11, 3) := by decide +kernel
theorem dX11_surely_19 : decode cX11_surely 19 = .ok (.iload 4, 2) := by decide +kernel
theorem dX11_surely_21 : decode cX11_surely 21 = .ok (.invokestatic 157, 3) := by decide +kernel
theorem dX11_surely_24 : decode cX11_surely 24 = .ok (.ifCond .ne 7, 3) := by decide +kernel
theorem dX11_surely_27 : decode cX11_surely 27 = .ok (.ldc2_w 160, 3) := by decide +kernel
theorem dX11_surely_30 : decode cX11_surely 30 = .ok (.lreturn, 1) := by decide +kernel
theorem dX11_surely_31 : decode cX11_surely 31 = .ok (.aload_n 0, 1) := by decide +kernel
theorem dX11_surely_32 : decode cX11_surely 32 = .ok (.iload_n 1, 1) := by decide +kernel
theorem dX11_surely_33 : decode cX11_surely 33 = .ok (.iload_n 2, 1) := by decide +kernel
theorem dX11_surely_34 : decode cX11_surely 34 = .ok (.iload_n 3, 1) := by decide +kernel
theorem dX11_surely_35 : decode cX11_surely 35 = .ok (.aload_n 0, 1) := by decide +kernel
theorem dX11_surely_36 : decode cX11_surely 36 = .ok (.getfield 120, 3) := by decide +kernel
theorem dX11_surely_39 : decode cX11_surely 39 = .ok (.invokevirtual 151, 3) := by decide +kernel
theorem dX11_surely_42 : decode cX11_surely 42 = .ok (.istore 5, 2) := by decide +kernel
theorem dX11_surely_44 : decode cX11_surely 44 = .ok (.aload_n 0, 1) := by decide +kernel
theorem dX11_surely_45 : decode cX11_surely 45 = .ok (.getfield 25, 3) := by decide +kernel
theorem dX11_surely_48 : decode cX11_surely 48 = .ok (.iload_n 1, 1) := by decide +kernel
theorem dX11_surely_49 : decode cX11_surely 49 = .ok (.iaload, 1) := by decide +kernel
theorem dX11_surely_50 : decode cX11_surely 50 = .ok (.iconst (-1), 1) := by decide +kernel
theorem dX11_surely_51 : decode cX11_surely 51 = .ok (.if_icmp .eq 25, 3) := by decide +kernel
theorem dX11_surely_54 : decode cX11_surely 54 = .ok (.aload_n 0, 1) := by decide +kernel
theorem dX11_surely_55 : decode cX11_surely 55 = .ok (.getfield 22, 3) := by decide +kernel
theorem dX11_surely_58 : decode cX11_surely 58 = .ok (.bipush 7, 2) := by decide +kernel
theorem dX11_surely_60 : decode cX11_surely 60 = .ok (.aload_n 0, 1) := by decide +kernel
theorem dX11_surely_61 : decode cX11_surely 61 = .ok (.getfield 25, 3) := by decide +kernel
theorem dX11_surely_64 : decode cX11_surely 64 = .ok (.iload_n 1, 1) := by decide +kernel
theorem dX11_surely_65 : decode cX11_surely 65 = .ok (.iaload, 1) := by decide +kernel
theorem dX11_surely_66 : decode cX11_surely 66 = .ok (.imul, 1) := by decide +kernel
theorem dX11_surely_67 : decode cX11_surely 67 = .ok (.iaload, 1) := by decide +kernel
theorem dX11_surely_68 : decode cX11_surely 68 = .ok (.iconst 2, 1) := by decide +kernel
theorem dX11_surely_69 : decode cX11_surely 69 = .ok (.if_icmp .ne 7, 3) := by decide +kernel
theorem dX11_surely_72 : decode cX11_surely 72 = .ok (.iconst 1, 1) := by decide +kernel
theorem dX11_surely_73 : decode cX11_surely 73 = .ok (.goto 4, 3) := by decide +kernel
theorem dX11_surely_76 : decode cX11_surely 76 = .ok (.iconst 0, 1) := by decide +kernel
theorem dX11_surely_77 : decode cX11_surely 77 = .ok (.istore 6, 2) := by decide +kernel
theorem dX11_surely_79 : decode cX11_surely 79 = .ok (.iload 5, 2) := by decide +kernel
theorem dX11_surely_81 : decode cX11_surely 81 = .ok (.ifCond .eq 8, 3) := by decide +kernel
theorem dX11_surely_84 : decode cX11_surely 84 = .ok (.iload 6, 2) := by decide +kernel
theorem dX11_surely_86 : decode cX11_surely 86 = .ok (.ifCond .ne 20, 3) := by decide +kernel
theorem dX11_surely_89 : decode cX11_surely 89 = .ok (.iload 5, 2) := by decide +kernel
theorem dX11_surely_91 : decode cX11_surely 91 = .ok (.ifCond .le 7, 3) := by decide +kernel
theorem dX11_surely_94 : decode cX11_surely 94 = .ok (.lconst 1, 1) := by decide +kernel
theorem dX11_surely_95 : decode cX11_surely 95 = .ok (.goto 4, 3) := by decide +kernel
theorem dX11_surely_98 : decode cX11_surely 98 = .ok (.lconst 0, 1) := by decide +kernel
theorem dX11_surely_99 : decode cX11_surely 99 = .ok (.lconst 1, 1) := by decide +kernel
theorem dX11_surely_100 : decode cX11_surely 100 = .ok (.iload 4, 2) := by decide +kernel
theorem dX11_surely_102 : decode cX11_surely 102 = .ok (.invokestatic 162, 3) := by decide +kernel
theorem dX11_surely_105 : decode cX11_surely 105 = .ok (.lreturn, 1) := by decide +kernel
theorem dX11_surely_106 : decode cX11_surely 106 = .ok (.lconst 1, 1) := by decide +kernel
theorem dX11_surely_107 : decode cX11_surely 107 = .ok (.lstore 7, 2) := by decide +kernel
theorem dX11_surely_109 : decode cX11_surely 109 = .ok (.lconst 1, 1) := by decide +kernel
theorem dX11_surely_110 : decode cX11_surely 110 = .ok (.lstore 9, 2) := by decide +kernel
theorem dX11_surely_112 : decode cX11_surely 112 = .ok (.iconst 0, 1) := by decide +kernel
theorem dX11_surely_113 : decode cX11_surely 113 = .ok (.istore 11, 2) := by decide +kernel
theorem dX11_surely_115 : decode cX11_surely 115 = .ok (.iload 11, 2) := by decide +kernel
theorem dX11_surely_117 : decode cX11_surely 117 = .ok (.iload 5, 2) := by decide +kernel
theorem dX11_surely_119 : decode cX11_surely 119 = .ok (.if_icmp .ge 42, 3) := by decide +kernel
theorem dX11_surely_122 : decode cX11_surely 122 = .ok (.lload 7, 2) := by decide +kernel
theorem dX11_surely_124 : decode cX11_surely 124 = .ok (.bipush 10, 2) := by decide +kernel
theorem dX11_surely_126 : decode cX11_surely 126 = .ok (.aload_n 0, 1) := by decide +kernel
theorem dX11_surely_127 : decode cX11_surely 127 = .ok (.getfield 22, 3) := by decide +kernel
theorem dX11_surely_130 : decode cX11_surely 130 = .ok (.bipush 7, 2) := by decide +kernel
theorem dX11_surely_132 : decode cX11_surely 132 = .ok (.aload_n 0, 1) := by decide +kernel
theorem dX11_surely_133 : decode cX11_surely 133 = .ok (.getfield 25, 3) := by decide +kernel
theorem dX11_surely_136 : decode cX11_surely 136 = .ok (.iload_n 1, 1) := by decide +kernel
theorem dX11_surely_137 : decode cX11_surely 137 = .ok (.iaload, 1) := by decide +kernel
theorem dX11_surely_138 : decode cX11_surely 138 = .ok (.imul, 1) := by decide +kernel
theorem dX11_surely_139 : decode cX11_surely 139 = .ok (.iconst 2, 1) := by decide +kernel
theorem dX11_surely_140 : decode cX11_surely 140 = .ok (.iadd, 1) := by decide +kernel
theorem dX11_surely_141 : decode cX11_surely 141 = .ok (.iaload, 1) := by decide +kernel
theorem dX11_surely_142 : decode cX11_surely 142 = .ok (.isub, 1) := by decide +kernel
theorem dX11_surely_143 : decode cX11_surely 143 = .ok (.i2l, 1) := by decide +kernel
theorem dX11_surely_144 : decode cX11_surely 144 = .ok (.lmul, 1) := by decide +kernel
theorem dX11_surely_145 : decode cX11_surely 145 = .ok (.lstore 7, 2) := by decide +kernel
theorem dX11_surely_147 : decode cX11_surely 147 = .ok (.lload 9, 2) := by decide +kernel
theorem dX11_surely_149 : decode cX11_surely 149 = .ok (.ldc2_w 166, 3) := by decide +kernel
theorem dX11_surely_152 : decode cX11_surely 152 = .ok (.lmul, 1) := by decide +kernel
theorem dX11_surely_153 : decode cX11_surely 153 = .ok (.lstore 9, 2) := by decide +kernel
theorem dX11_surely_155 : decode cX11_surely 155 = .ok (.iinc 11 1, 3) := by decide +kernel
theorem dX11_surely_158 : decode cX11_surely 158 = .ok (.goto (-43), 3) := by decide +kernel
theorem dX11_surely_161 : decode cX11_surely 161 = .ok (.lload 9, 2) := by decide +kernel
theorem dX11_surely_163 : decode cX11_surely 163 = .ok (.lload 7, 2) := by decide +kernel
theorem dX11_surely_165 : decode cX11_surely 165 = .ok (.lsub, 1) := by decide +kernel
theorem dX11_surely_166 : decode cX11_surely 166 = .ok (.lload 9, 2) := by decide +kernel
theorem dX11_surely_168 : decode cX11_surely 168 = .ok (.iload 4, 2) := by decide +kernel
theorem dX11_surely_170 : decode cX11_surely 170 = .ok (.invokestatic 162, 3) := by decide +kernel
theorem dX11_surely_173 : decode cX11_surely 173 = .ok (.lreturn, 1) := by decide +kernel
theorem dX11_isOver_0 : decode cX11_isOver 0 = .ok (.iconst 0, 1) := by decide +kernel
theorem dX11_isOver_1 : decode cX11_isOver 1 = .ok (.istore_n 2, 1) := by decide +kernel
theorem dX11_isOver_2 : decode cX11_isOver 2 = .ok (.iconst 0, 1) := by decide +kernel
theorem dX11_isOver_3 : decode cX11_isOver 3 = .ok (.istore_n 3, 1) := by decide +kernel
theorem dX11_isOver_4 : decode cX11_isOver 4 = .ok (.iload_n 3, 1) := by decide +kernel
theorem dX11_isOver_5 : decode cX11_isOver 5 = .ok (.bipush 10, 2) := by decide +kernel
theorem dX11_isOver_7 : decode cX11_isOver 7 = .ok (.if_icmp .ge 120, 3) := by decide +kernel
theorem dX11_isOver_10 : decode cX11_isOver 10 = .ok (.iconst 0, 1) := by decide +kernel
theorem dX11_isOver_11 : decode cX11_isOver 11 = .ok (.istore 4, 2) := by decide +kernel
theorem dX11_isOver_13 : decode cX11_isOver 13 = .ok (.iload 4, 2) := by decide +kernel
theorem dX11_isOver_15 : decode cX11_isOver 15 = .ok (.bipush 20, 2) := by decide +kernel
theorem dX11_isOver_17 : decode cX11_isOver 17 = .ok (.if_icmp .ge 104, 3) := by decide +kernel
theorem dX11_isOver_20 : decode cX11_isOver 20 = .ok (.aload_n 0, 1) := by decide +kernel
theorem dX11_isOver_21 : decode cX11_isOver 21 = .ok (.iload_n 3, 1) := by decide +kernel
theorem dX11_isOver_22 : decode cX11_isOver 22 = .ok (.bipush 100, 2) := by decide +kernel
theorem dX11_isOver_24 : decode cX11_isOver 24 = .ok (.iload 4, 2) := by decide +kernel
theorem dX11_isOver_26 : decode cX11_isOver 26 = .ok (.imul, 1) := by decide +kernel
theorem dX11_isOver_27 : decode cX11_isOver 27 = .ok (.bipush 100, 2) := by decide +kernel
theorem dX11_isOver_29 : decode cX11_isOver 29 = .ok (.iload 4, 2) := by decide +kernel
theorem dX11_isOver_31 : decode cX11_isOver 31 = .ok (.imul, 1) := by decide +kernel
theorem dX11_isOver_32 : decode cX11_isOver 32 = .ok (.bipush 99, 2) := by decide +kernel
theorem dX11_isOver_34 : decode cX11_isOver 34 = .ok (.iadd, 1) := by decide +kernel
theorem dX11_isOver_35 : decode cX11_isOver 35 = .ok (.iload_n 1, 1) := by decide +kernel
theorem dX11_isOver_36 : decode cX11_isOver 36 = .ok (.invokevirtual 151, 3) := by decide +kernel
theorem dX11_isOver_39 : decode cX11_isOver 39 = .ok (.istore 5, 2) := by decide +kernel
theorem dX11_isOver_41 : decode cX11_isOver 41 = .ok (.iconst 0, 1) := by decide +kernel
theorem dX11_isOver_42 : decode cX11_isOver 42 = .ok (.istore 6, 2) := by decide +kernel
theorem dX11_isOver_44 : decode cX11_isOver 44 = .ok (.iload 6, 2) := by decide +kernel
theorem dX11_isOver_46 : decode cX11_isOver 46 = .ok (.iload_n 1, 1) := by decide +kernel
theorem dX11_isOver_47 : decode cX11_isOver 47 = .ok (.if_icmp .ge 51, 3) := by decide +kernel
theorem dX11_isOver_50 : decode cX11_isOver 50 = .ok (.iload 5, 2) := by decide +kernel
theorem dX11_isOver_52 : decode cX11_isOver 52 = .ok (.aload_n 0, 1) := by decide +kernel
theorem dX11_isOver_53 : decode cX11_isOver 53 = .ok (.getfield 28, 3) := by decide +kernel
theorem dX11_isOver_56 : decode cX11_isOver 56 = .ok (.iconst 2, 1) := by decide +kernel
theorem dX11_isOver_57 : decode cX11_isOver 57 = .ok (.iload 6, 2) := by decide +kernel
theorem dX11_isOver_59 : decode cX11_isOver 59 = .ok (.imul, 1) := by decide +kernel
theorem dX11_isOver_60 : decode cX11_isOver 60 = .ok (.iaload, 1) := by decide +kernel
theorem dX11_isOver_61 : decode cX11_isOver 61 = .ok (.iload_n 3, 1) := by decide +kernel
theorem dX11_isOver_62 : decode cX11_isOver 62 = .ok (.if_icmp .ne 26, 3) := by decide +kernel
theorem dX11_isOver_65 : decode cX11_isOver 65 = .ok (.aload_n 0, 1) := by decide +kernel
theorem dX11_isOver_66 : decode cX11_isOver 66 = .ok (.getfield 28, 3) := by decide +kernel
theorem dX11_isOver_69 : decode cX11_isOver 69 = .ok (.iconst 2, 1) := by decide +kernel
theorem dX11_isOver_70 : decode cX11_isOver 70 = .ok (.iload 6, 2) := by decide +kernel
theorem dX11_isOver_72 : decode cX11_isOver 72 = .ok (.imul, 1) := by decide +kernel
theorem dX11_isOver_73 : decode cX11_isOver 73 = .ok (.iconst 1, 1) := by decide +kernel
theorem dX11_isOver_74 : decode cX11_isOver 74 = .ok (.iadd, 1) := by decide +kernel
theorem dX11_isOver_75 : decode cX11_isOver 75 = .ok (.iaload, 1) := by decide +kernel
theorem dX11_isOver_76 : decode cX11_isOver 76 = .ok (.bipush 100, 2) := by decide +kernel
theorem dX11_isOver_78 : decode cX11_isOver 78 = .ok (.idiv, 1) := by decide +kernel
theorem dX11_isOver_79 : decode cX11_isOver 79 = .ok (.iload 4, 2) := by decide +kernel
theorem dX11_isOver_81 : decode cX11_isOver 81 = .ok (.if_icmp .ne 7, 3) := by decide +kernel
theorem dX11_isOver_84 : decode cX11_isOver 84 = .ok (.iconst 1, 1) := by decide +kernel
theorem dX11_isOver_85 : decode cX11_isOver 85 = .ok (.goto 4, 3) := by decide +kernel
theorem dX11_isOver_88 : decode cX11_isOver 88 = .ok (.iconst 0, 1) := by decide +kernel
theorem dX11_isOver_89 : decode cX11_isOver 89 = .ok (.iadd, 1) := by decide +kernel
theorem dX11_isOver_90 : decode cX11_isOver 90 = .ok (.istore 5, 2) := by decide +kernel
theorem dX11_isOver_92 : decode cX11_isOver 92 = .ok (.iinc 6 1, 3) := by decide +kernel
theorem dX11_isOver_95 : decode cX11_isOver 95 = .ok (.goto (-51), 3) := by decide +kernel
theorem dX11_isOver_98 : decode cX11_isOver 98 = .ok (.iload_n 2, 1) := by decide +kernel
theorem dX11_isOver_99 : decode cX11_isOver 99 = .ok (.ifCond .ne 10, 3) := by decide +kernel
theorem dX11_isOver_102 : decode cX11_isOver 102 = .ok (.iload 5, 2) := by decide +kernel
theorem dX11_isOver_104 : decode cX11_isOver 104 = .ok (.bipush 9, 2) := by decide +kernel
theorem dX11_isOver_106 : decode cX11_isOver 106 = .ok (.if_icmp .le 7, 3) := by decide +kernel
theorem dX11_isOver_109 : decode cX11_isOver 109 = .ok (.iconst 1, 1) := by decide +kernel
theorem dX11_isOver_110 : decode cX11_isOver 110 = .ok (.goto 4, 3) := by decide +kernel
theorem dX11_isOver_113 : decode cX11_isOver 113 = .ok (.iconst 0, 1) := by decide +kernel
theorem dX11_isOver_114 : decode cX11_isOver 114 = .ok (.istore_n 2, 1) := by decide +kernel
theorem dX11_isOver_115 : decode cX11_isOver 115 = .ok (.iinc 4 1, 3) := by decide +kernel
theorem dX11_isOver_118 : decode cX11_isOver 118 = .ok (.goto (-105), 3) := by decide +kernel
theorem dX11_isOver_121 : decode cX11_isOver 121 = .ok (.iinc 3 1, 3) := by decide +kernel
theorem dX11_isOver_124 : decode cX11_isOver 124 = .ok (.goto (-120), 3) := by decide +kernel
theorem dX11_isOver_127 : decode cX11_isOver 127 = .ok (.iload_n 2, 1) := by decide +kernel
theorem dX11_isOver_128 : decode cX11_isOver 128 = .ok (.ireturn, 1) := by decide +kernel
theorem dX11_overOf_0 : decode cX11_overOf 0 = .ok (.iconst 1, 1) := by decide +kernel
theorem dX11_overOf_1 : decode cX11_overOf 1 = .ok (.istore_n 1, 1) := by decide +kernel
theorem dX11_overOf_2 : decode cX11_overOf 2 = .ok (.iload_n 1, 1) := by decide +kernel
theorem dX11_overOf_3 : decode cX11_overOf 3 = .ok (.aload_n 0, 1) := by decide +kernel
theorem dX11_overOf_4 : decode cX11_overOf 4 = .ok (.getfield 120, 3) := by decide +kernel
theorem dX11_overOf_7 : decode cX11_overOf 7 = .ok (.if_icmp .gt 21, 3) := by decide +kernel
theorem dX11_overOf_10 : decode cX11_overOf 10 = .ok (.aload_n 0, 1) := by decide +kernel
theorem dX11_overOf_11 : decode cX11_overOf 11 = .ok (.iload_n 1, 1) := by decide +kernel
theorem dX11_overOf_12 : decode cX11_overOf 12 = .ok (.invokevirtual 168, 3) := by decide +kernel
theorem dX11_overOf_15 : decode cX11_overOf 15 = .ok (.ifCond .eq 7, 3) := by decide +kernel
theorem dX11_overOf_18 : decode cX11_overOf 18 = .ok (.iload_n 1, 1) := by decide +kernel
theorem dX11_overOf_19 : decode cX11_overOf 19 = .ok (.iconst 1, 1) := by decide +kernel
theorem dX11_overOf_20 : decode cX11_overOf 20 = .ok (.isub, 1) := by decide +kernel
theorem dX11_overOf_21 : decode cX11_overOf 21 = .ok (.ireturn, 1) := by decide +kernel
theorem dX11_overOf_22 : decode cX11_overOf 22 = .ok (.iinc 1 1, 3) := by decide +kernel
theorem dX11_overOf_25 : decode cX11_overOf 25 = .ok (.goto (-23), 3) := by decide +kernel
theorem dX11_overOf_28 : decode cX11_overOf 28 = .ok (.iconst (-1), 1) := by decide +kernel
theorem dX11_overOf_29 : decode cX11_overOf 29 = .ok (.ireturn, 1) := by decide +kernel
theorem dX11_over_0 : decode cX11_over 0 = .ok (.aload_n 0, 1) := by decide +kernel
theorem dX11_over_1 : decode cX11_over 1 = .ok (.invokevirtual 171, 3) := by decide +kernel
theorem dX11_over_4 : decode cX11_over 4 = .ok (.ireturn, 1) := by decide +kernel
theorem dX11_mayCome_0 : decode cX11_mayCome 0 = .ok (.aload_n 0, 1) := by decide +kernel
theorem dX11_mayCome_1 : decode cX11_mayCome 1 = .ok (.getfield 31, 3) := by decide +kernel
theorem dX11_mayCome_4 : decode cX11_mayCome 4 = .ok (.bipush 6, 2) := by decide +kernel
theorem dX11_mayCome_6 : decode cX11_mayCome 6 = .ok (.iload_n 1, 1) := by decide +kernel
theorem dX11_mayCome_7 : decode cX11_mayCome 7 = .ok (.imul, 1) := by decide +kernel
theorem dX11_mayCome_8 : decode cX11_mayCome 8 = .ok (.iload_n 2, 1) := by decide +kernel
theorem dX11_mayCome_9 : decode cX11_mayCome 9 = .ok (.iadd, 1) := by decide +kernel
theorem dX11_mayCome_10 : decode cX11_mayCome 10 = .ok (.iload_n 3, 1) := by decide +kernel
theorem dX11_mayCome_11 : decode cX11_mayCome 11 = .ok (.aload_n 0, 1) := by decide +kernel
theorem dX11_mayCome_12 : decode cX11_mayCome 12 = .ok (.getfield 31, 3) := by decide +kernel
theorem dX11_mayCome_15 : decode cX11_mayCome 15 = .ok (.bipush 6, 2) := by decide +kernel
theorem dX11_mayCome_17 : decode cX11_mayCome 17 = .ok (.iload_n 1, 1) := by decide +kernel
theorem dX11_mayCome_18 : decode cX11_mayCome 18 = .ok (.imul, 1) := by decide +kernel
theorem dX11_mayCome_19 : decode cX11_mayCome 19 = .ok (.iload_n 2, 1) := by decide +kernel
theorem dX11_mayCome_20 : decode cX11_mayCome 20 = .ok (.iadd, 1) := by decide +kernel
theorem dX11_mayCome_21 : decode cX11_mayCome 21 = .ok (.iaload, 1) := by decide +kernel
theorem dX11_mayCome_22 : decode cX11_mayCome 22 = .ok (.if_icmp .ge 7, 3) := by decide +kernel
theorem dX11_mayCome_25 : decode cX11_mayCome 25 = .ok (.iload_n 3, 1) := by decide +kernel
theorem dX11_mayCome_26 : decode cX11_mayCome 26 = .ok (.goto 14, 3) := by decide +kernel
theorem dX11_mayCome_29 : decode cX11_mayCome 29 = .ok (.aload_n 0, 1) := by decide +kernel
theorem dX11_mayCome_30 : decode cX11_mayCome 30 = .ok (.getfield 31, 3) := by decide +kernel
theorem dX11_mayCome_33 : decode cX11_mayCome 33 = .ok (.bipush 6, 2) := by decide +kernel
theorem dX11_mayCome_35 : decode cX11_mayCome 35 = .ok (.iload_n 1, 1) := by decide +kernel
theorem dX11_mayCome_36 : decode cX11_mayCome 36 = .ok (.imul, 1) := by decide +kernel
theorem dX11_mayCome_37 : decode cX11_mayCome 37 = .ok (.iload_n 2, 1) := by decide +kernel
theorem dX11_mayCome_38 : decode cX11_mayCome 38 = .ok (.iadd, 1) := by decide +kernel
theorem dX11_mayCome_39 : decode cX11_mayCome 39 = .ok (.iaload, 1) := by decide +kernel
theorem dX11_mayCome_40 : decode cX11_mayCome 40 = .ok (.iastore, 1) := by decide +kernel
theorem dX11_mayCome_41 : decode cX11_mayCome 41 = .ok (.return_, 1) := by decide +kernel
theorem dX11_layTouch_0 : decode cX11_layTouch 0 = .ok (.aload_n 0, 1) := by decide +kernel
theorem dX11_layTouch_1 : decode cX11_layTouch 1 = .ok (.getfield 25, 3) := by decide +kernel
theorem dX11_layTouch_4 : decode cX11_layTouch 4 = .ok (.iload_n 1, 1) := by decide +kernel
theorem dX11_layTouch_5 : decode cX11_layTouch 5 = .ok (.iaload, 1) := by decide +kernel
theorem dX11_layTouch_6 : decode cX11_layTouch 6 = .ok (.istore_n 3, 1) := by decide +kernel
theorem dX11_layTouch_7 : decode cX11_layTouch 7 = .ok (.iload_n 3, 1) := by decide +kernel
theorem dX11_layTouch_8 : decode cX11_layTouch 8 = .ok (.iconst (-1), 1) := by decide +kernel
theorem dX11_layTouch_9 : decode cX11_layTouch 9 = .ok (.if_icmp .eq 16, 3) := by decide +kernel
theorem dX11_layTouch_12 : decode cX11_layTouch 12 = .ok (.aload_n 0, 1) := by decide +kernel
theorem dX11_layTouch_13 : decode cX11_layTouch 13 = .ok (.getfield 22, 3) := by decide +kernel
theorem dX11_layTouch_16 : decode cX11_layTouch 16 = .ok (.bipush 7, 2) := by decide +kernel
theorem dX11_layTouch_18 : decode cX11_layTouch 18 = .ok (.iload_n 3, 1) := by decide +kernel
theorem dX11_layTouch_19 : decode cX11_layTouch 19 = .ok (.imul, 1) := by decide +kernel
theorem dX11_layTouch_20 : decode cX11_layTouch 20 = .ok (.iaload, 1) := by decide +kernel
theorem dX11_layTouch_21 : decode cX11_layTouch 21 = .ok (.iconst 2, 1) := by decide +kernel
theorem dX11_layTouch_22 : decode cX11_layTouch 22 = .ok (.if_icmp .ne 4, 3) := by decide +kernel
theorem dX11_layTouch_25 : decode cX11_layTouch 25 = .ok (.return_, 1) := by decide +kernel
theorem dX11_layTouch_26 : decode cX11_layTouch 26 = .ok (.aload_n 0, 1) := by decide +kernel
theorem dX11_layTouch_27 : decode cX11_layTouch 27 = .ok (.getfield 22, 3) := by decide +kernel
theorem dX11_layTouch_30 : decode cX11_layTouch 30 = .ok (.bipush 7, 2) := by decide +kernel
theorem dX11_layTouch_32 : decode cX11_layTouch 32 = .ok (.iload_n 3, 1) := by decide +kernel
theorem dX11_layTouch_33 : decode cX11_layTouch 33 = .ok (.imul, 1) := by decide +kernel
theorem dX11_layTouch_34 : decode cX11_layTouch 34 = .ok (.iconst 1, 1) := by decide +kernel
theorem dX11_layTouch_35 : decode cX11_layTouch 35 = .ok (.iadd, 1) := by decide +kernel
theorem dX11_layTouch_36 : decode cX11_layTouch 36 = .ok (.iaload, 1) := by decide +kernel
theorem dX11_layTouch_37 : decode cX11_layTouch 37 = .ok (.istore 4, 2) := by decide +kernel
theorem dX11_layTouch_39 : decode cX11_layTouch 39 = .ok (.iconst 1, 1) := by decide +kernel
theorem dX11_layTouch_40 : decode cX11_layTouch 40 = .ok (.istore 5, 2) := by decide +kernel
theorem dX11_layTouch_42 : decode cX11_layTouch 42 = .ok (.iconst 0, 1) := by decide +kernel
theorem dX11_layTouch_43 : decode cX11_layTouch 43 = .ok (.istore 6, 2) := by decide +kernel
theorem dX11_layTouch_45 : decode cX11_layTouch 45 = .ok (.iload 6, 2) := by decide +kernel
theorem dX11_layTouch_47 : decode cX11_layTouch 47 = .ok (.iload 4, 2) := by decide +kernel
theorem dX11_layTouch_49 : decode cX11_layTouch 49 = .ok (.if_icmp .ge 42, 3) := by decide +kernel
theorem dX11_layTouch_52 : decode cX11_layTouch 52 = .ok (.iload 5, 2) := by decide +kernel
theorem dX11_layTouch_54 : decode cX11_layTouch 54 = .ok (.ifCond .eq 28, 3) := by decide +kernel
theorem dX11_layTouch_57 : decode cX11_layTouch 57 = .ok (.iload_n 2, 1) := by decide +kernel
theorem dX11_layTouch_58 : decode cX11_layTouch 58 = .ok (.aload_n 0, 1) := by decide +kernel
theorem dX11_layTouch_59 : decode cX11_layTouch 59 = .ok (.getfield 22, 3) := by decide +kernel
theorem dX11_layTouch_62 : decode cX11_layTouch 62 = .ok (.bipush 7, 2) := by decide +kernel
theorem dX11_layTouch_64 : decode cX11_layTouch 64 = .ok (.iload_n 3, 1) := by decide +kernel
theorem dX11_layTouch_65 : decode cX11_layTouch 65 = .ok (.imul, 1) := by decide +kernel
theorem dX11_layTouch_66 : decode cX11_layTouch 66 = .ok (.iconst 3, 1) := by decide +kernel
theorem dX11_layTouch_67 : decode cX11_layTouch 67 = .ok (.iadd, 1) := by decide +kernel
theorem dX11_layTouch_68 : decode cX11_layTouch 68 = .ok (.iload 6, 2) := by decide +kernel
theorem dX11_layTouch_70 : decode cX11_layTouch 70 = .ok (.iadd, 1) := by decide +kernel
theorem dX11_layTouch_71 : decode cX11_layTouch 71 = .ok (.iaload, 1) := by decide +kernel
theorem dX11_layTouch_72 : decode cX11_layTouch 72 = .ok (.ishr, 1) := by decide +kernel
theorem dX11_layTouch_73 : decode cX11_layTouch 73 = .ok (.iconst 1, 1) := by decide +kernel
theorem dX11_layTouch_74 : decode cX11_layTouch 74 = .ok (.iand, 1) := by decide +kernel
theorem dX11_layTouch_75 : decode cX11_layTouch 75 = .ok (.ifCond .ne 7, 3) := by decide +kernel
theorem dX11_layTouch_78 : decode cX11_layTouch 78 = .ok (.iconst 1, 1) := by decide +kernel
theorem dX11_layTouch_79 : decode cX11_layTouch 79 = .ok (.goto 4, 3) := by decide +kernel
theorem dX11_layTouch_82 : decode cX11_layTouch 82 = .ok (.iconst 0, 1) := by decide +kernel
theorem dX11_layTouch_83 : decode cX11_layTouch 83 = .ok (.istore 5, 2) := by decide +kernel
theorem dX11_layTouch_85 : decode cX11_layTouch 85 = .ok (.iinc 6 1, 3) := by decide +kernel
theorem dX11_layTouch_88 : decode cX11_layTouch 88 = .ok (.goto (-43), 3) := by decide +kernel
theorem dX11_layTouch_91 : decode cX11_layTouch 91 = .ok (.iconst 0, 1) := by decide +kernel
theorem dX11_layTouch_92 : decode cX11_layTouch 92 = .ok (.istore 6, 2) := by decide +kernel
theorem dX11_layTouch_94 : decode cX11_layTouch 94 = .ok (.iload 6, 2) := by decide +kernel
theorem dX11_layTouch_96 : decode cX11_layTouch 96 = .ok (.iload 4, 2) := by decide +kernel
theorem dX11_layTouch_98 : decode cX11_layTouch 98 = .ok (.if_icmp .ge 62, 3) := by decide +kernel
theorem dX11_layTouch_101 : decode cX11_layTouch 101 = .ok (.iload 5, 2) := by decide +kernel
theorem dX11_layTouch_103 : decode cX11_layTouch 103 = .ok (.ifCond .eq 57, 3) := by decide +kernel
theorem dX11_layTouch_106 : decode cX11_layTouch 106 = .ok (.aload_n 0, 1) := by decide +kernel
theorem dX11_layTouch_107 : decode cX11_layTouch 107 = .ok (.getfield 22, 3) := by decide +kernel
theorem dX11_layTouch_110 : decode cX11_layTouch 110 = .ok (.bipush 7, 2) := by decide +kernel
theorem dX11_layTouch_112 : decode cX11_layTouch 112 = .ok (.iload_n 3, 1) := by decide +kernel
theorem dX11_layTouch_113 : decode cX11_layTouch 113 = .ok (.imul, 1) := by decide +kernel
theorem dX11_layTouch_114 : decode cX11_layTouch 114 = .ok (.iconst 3, 1) := by decide +kernel
theorem dX11_layTouch_115 : decode cX11_layTouch 115 = .ok (.iadd, 1) := by decide +kernel
theorem dX11_layTouch_116 : decode cX11_layTouch 116 = .ok (.iload 6, 2) := by decide +kernel
theorem dX11_layTouch_118 : decode cX11_layTouch 118 = .ok (.iadd, 1) := by decide +kernel
theorem dX11_layTouch_119 : decode cX11_layTouch 119 = .ok (.iaload, 1) := by decide +kernel
theorem dX11_layTouch_120 : decode cX11_layTouch 120 = .ok (.istore 7, 2) := by decide +kernel
theorem dX11_layTouch_122 : decode cX11_layTouch 122 = .ok (.iload 7, 2) := by decide +kernel
theorem dX11_layTouch_124 : decode cX11_layTouch 124 = .ok (.iload_n 1, 1) := by decide +kernel
theorem dX11_layTouch_125 : decode cX11_layTouch 125 = .ok (.if_icmp .eq 29, 3) := by decide +kernel
theorem dX11_layTouch_128 : decode cX11_layTouch 128 = .ok (.aload_n 0, 1) := by decide +kernel
theorem dX11_layTouch_129 : decode cX11_layTouch 129 = .ok (.aload_n 0, 1) := by decide +kernel
theorem dX11_layTouch_130 : decode cX11_layTouch 130 = .ok (.getfield 13, 3) := by decide +kernel
theorem dX11_layTouch_133 : decode cX11_layTouch 133 = .ok (.iload_n 1, 1) := by decide +kernel
theorem dX11_layTouch_134 : decode cX11_layTouch 134 = .ok (.iaload, 1) := by decide +kernel
theorem dX11_layTouch_135 : decode cX11_layTouch 135 = .ok (.aload_n 0, 1) := by decide +kernel
theorem dX11_layTouch_136 : decode cX11_layTouch 136 = .ok (.getfield 13, 3) := by decide +kernel
theorem dX11_layTouch_139 : decode cX11_layTouch 139 = .ok (.iload 7, 2) := by decide +kernel
theorem dX11_layTouch_141 : decode cX11_layTouch 141 = .ok (.iaload, 1) := by decide +kernel
theorem dX11_layTouch_142 : decode cX11_layTouch 142 = .ok (.iconst 1, 1) := by decide +kernel
theorem dX11_layTouch_143 : decode cX11_layTouch 143 = .ok (.aload_n 0, 1) := by decide +kernel
theorem dX11_layTouch_144 : decode cX11_layTouch 144 = .ok (.iload_n 1, 1) := by decide +kernel
theorem dX11_layTouch_145 : decode cX11_layTouch 145 = .ok (.iload 7, 2) := by decide +kernel
theorem dX11_layTouch_147 : decode cX11_layTouch 147 = .ok (.invokevirtual 142, 3) := by decide +kernel
theorem dX11_layTouch_150 : decode cX11_layTouch 150 = .ok (.iadd, 1) := by decide +kernel
theorem dX11_layTouch_151 : decode cX11_layTouch 151 = .ok (.invokevirtual 174, 3) := by decide +kernel
theorem dX11_layTouch_154 : decode cX11_layTouch 154 = .ok (.iinc 6 1, 3) := by decide +kernel
theorem dX11_layTouch_157 : decode cX11_layTouch 157 = .ok (.goto (-63), 3) := by decide +kernel
theorem dX11_layTouch_160 : decode cX11_layTouch 160 = .ok (.return_, 1) := by decide +kernel
theorem dX11_layWays_0 : decode cX11_layWays 0 = .ok (.iconst 0, 1) := by decide +kernel
theorem dX11_layWays_1 : decode cX11_layWays 1 = .ok (.istore_n 2, 1) := by decide +kernel
theorem dX11_layWays_2 : decode cX11_layWays 2 = .ok (.iload_n 2, 1) := by decide +kernel
theorem dX11_layWays_3 : decode cX11_layWays 3 = .ok (.bipush 36, 2) := by decide +kernel
theorem dX11_layWays_5 : decode cX11_layWays 5 = .ok (.if_icmp .ge 50, 3) := by decide +kernel
theorem dX11_layWays_8 : decode cX11_layWays 8 = .ok (.aload_n 0, 1) := by decide +kernel
theorem dX11_layWays_9 : decode cX11_layWays 9 = .ok (.getfield 31, 3) := by decide +kernel
theorem dX11_layWays_12 : decode cX11_layWays 12 = .ok (.iload_n 2, 1) := by decide +kernel
theorem dX11_layWays_13 : decode cX11_layWays 13 = .ok (.iload_n 2, 1) := by decide +kernel
theorem dX11_layWays_14 : decode cX11_layWays 14 = .ok (.bipush 6, 2) := by decide +kernel
theorem dX11_layWays_16 : decode cX11_layWays 16 = .ok (.idiv, 1) := by decide +kernel
theorem dX11_layWays_17 : decode cX11_layWays 17 = .ok (.iload_n 2, 1) := by decide +kernel
theorem dX11_layWays_18 : decode cX11_layWays 18 = .ok (.bipush 6, 2) := by decide +kernel
theorem dX11_layWays_20 : decode cX11_layWays 20 = .ok (.irem, 1) := by decide +kernel
theorem dX11_layWays_21 : decode cX11_layWays 21 = .ok (.if_icmp .ne 7, 3) := by decide +kernel
theorem dX11_layWays_24 : decode cX11_layWays 24 = .ok (.iconst 0, 1) := by decide +kernel
theorem dX11_layWays_25 : decode cX11_layWays 25 = .ok (.goto 23, 3) := by decide +kernel
theorem dX11_layWays_28 : decode cX11_layWays 28 = .ok (.aload_n 0, 1) := by decide +kernel
theorem dX11_layWays_29 : decode cX11_layWays 29 = .ok (.getfield 7, 3) := by decide +kernel
theorem dX11_layWays_32 : decode cX11_layWays 32 = .ok (.iload_n 2, 1) := by decide +kernel
theorem dX11_layWays_33 : decode cX11_layWays 33 = .ok (.iaload, 1) := by decide +kernel
theorem dX11_layWays_34 : decode cX11_layWays 34 = .ok (.ifCond .le 12, 3) := by decide +kernel
theorem dX11_layWays_37 : decode cX11_layWays 37 = .ok (.aload_n 0, 1) := by decide +kernel
theorem dX11_layWays_38 : decode cX11_layWays 38 = .ok (.getfield 7, 3) := by decide +kernel
theorem dX11_layWays_41 : decode cX11_layWays 41 = .ok (.iload_n 2, 1) := by decide +kernel
theorem dX11_layWays_42 : decode cX11_layWays 42 = .ok (.iaload, 1) := by decide +kernel
theorem dX11_layWays_43 : decode cX11_layWays 43 = .ok (.goto 5, 3) := by decide +kernel
theorem dX11_layWays_46 : decode cX11_layWays 46 = .ok (.ldc 178, 2) := by decide +kernel
theorem dX11_layWays_48 : decode cX11_layWays 48 = .ok (.iastore, 1) := by decide +kernel
theorem dX11_layWays_49 : decode cX11_layWays 49 = .ok (.iinc 2 1, 3) := by decide +kernel
theorem dX11_layWays_52 : decode cX11_layWays 52 = .ok (.goto (-50), 3) := by decide +kernel
theorem dX11_layWays_55 : decode cX11_layWays 55 = .ok (.iconst 0, 1) := by decide +kernel
theorem dX11_layWays_56 : decode cX11_layWays 56 = .ok (.istore_n 2, 1) := by decide +kernel
theorem dX11_layWays_57 : decode cX11_layWays 57 = .ok (.iload_n 2, 1) := by decide +kernel
theorem dX11_layWays_58 : decode cX11_layWays 58 = .ok (.bipush 10, 2) := by decide +kernel
theorem dX11_layWays_60 : decode cX11_layWays 60 = .ok (.if_icmp .ge 15, 3) := by decide +kernel
theorem dX11_layWays_63 : decode cX11_layWays 63 = .ok (.aload_n 0, 1) := by decide +kernel
theorem dX11_layWays_64 : decode cX11_layWays 64 = .ok (.iload_n 2, 1) := by decide +kernel
theorem dX11_layWays_65 : decode cX11_layWays 65 = .ok (.iload_n 1, 1) := by decide +kernel
theorem dX11_layWays_66 : decode cX11_layWays 66 = .ok (.invokevirtual 179, 3) := by decide +kernel
theorem dX11_layWays_69 : decode cX11_layWays 69 = .ok (.iinc 2 1, 3) := by decide +kernel
theorem dX11_layWays_72 : decode cX11_layWays 72 = .ok (.goto (-15), 3) := by decide +kernel
theorem dX11_layWays_75 : decode cX11_layWays 75 = .ok (.return_, 1) := by decide +kernel
theorem dX11_closeWays_0 : decode cX11_closeWays 0 = .ok (.iconst 0, 1) := by decide +kernel
theorem dX11_closeWays_1 : decode cX11_closeWays 1 = .ok (.istore_n 1, 1) := by decide +kernel
theorem dX11_closeWays_2 : decode cX11_closeWays 2 = .ok (.iload_n 1, 1) := by decide +kernel
theorem dX11_closeWays_3 : decode cX11_closeWays 3 = .ok (.bipush 6, 2) := by decide +kernel
theorem dX11_closeWays_5 : decode cX11_closeWays 5 = .ok (.if_icmp .ge 66, 3) := by decide +kernel
theorem dX11_closeWays_8 : decode cX11_closeWays 8 = .ok (.iconst 0, 1) := by decide +kernel
theorem dX11_closeWays_9 : decode cX11_closeWays 9 = .ok (.istore_n 2, 1) := by decide +kernel
theorem dX11_closeWays_10 : decode cX11_closeWays 10 = .ok (.iload_n 2, 1) := by decide +kernel
theorem dX11_closeWays_11 : decode cX11_closeWays 11 = .ok (.bipush 6, 2) := by decide +kernel
theorem dX11_closeWays_13 : decode cX11_closeWays 13 = .ok (.if_icmp .ge 52, 3) := by decide +kernel
theorem dX11_closeWays_16 : decode cX11_closeWays 16 = .ok (.iconst 0, 1) := by decide +kernel
theorem dX11_closeWays_17 : decode cX11_closeWays 17 = .ok (.istore_n 3, 1) := by decide +kernel
theorem dX11_closeWays_18 : decode cX11_closeWays 18 = .ok (.iload_n 3, 1) := by decide +kernel
theorem dX11_closeWays_19 : decode cX11_closeWays 19 = .ok (.bipush 6, 2) := by decide +kernel
theorem dX11_closeWays_21 : decode cX11_closeWays 21 = .ok (.if_icmp .ge 38, 3) := by decide +kernel
theorem dX11_closeWays_24 : decode cX11_closeWays 24 = .ok (.aload_n 0, 1) := by decide +kernel
theorem dX11_closeWays_25 : decode cX11_closeWays 25 = .ok (.iload_n 2, 1) := by decide +kernel
theorem dX11_closeWays_26 : decode cX11_closeWays 26 = .ok (.iload_n 3, 1) := by decide +kernel
theorem dX11_closeWays_27 : decode cX11_closeWays 27 = .ok (.aload_n 0, 1) := by decide +kernel
theorem dX11_closeWays_28 : decode cX11_closeWays 28 = .ok (.getfield 31, 3) := by decide +kernel
theorem dX11_closeWays_31 : decode cX11_closeWays 31 = .ok (.bipush 6, 2) := by decide +kernel
theorem dX11_closeWays_33 : decode cX11_closeWays 33 = .ok (.iload_n 2, 1) := by decide +kernel
theorem dX11_closeWays_34 : decode cX11_closeWays 34 = .ok (.imul, 1) := by decide +kernel
theorem dX11_closeWays_35 : decode cX11_closeWays 35 = .ok (.iload_n 1, 1) := by decide +kernel
theorem dX11_closeWays_36 : decode cX11_closeWays 36 = .ok (.iadd, 1) := by decide +kernel
theorem dX11_closeWays_37 : decode cX11_closeWays 37 = .ok (.iaload, 1) := by decide +kernel
theorem dX11_closeWays_38 : decode cX11_closeWays 38 = .ok (.aload_n 0, 1) := by decide +kernel
theorem dX11_closeWays_39 : decode cX11_closeWays 39 = .ok (.getfield 31, 3) := by decide +kernel
theorem dX11_closeWays_42 : decode cX11_closeWays 42 = .ok (.bipush 6, 2) := by decide +kernel
theorem dX11_closeWays_44 : decode cX11_closeWays 44 = .ok (.iload_n 1, 1) := by decide +kernel
theorem dX11_closeWays_45 : decode cX11_closeWays 45 = .ok (.imul, 1) := by decide +kernel
theorem dX11_closeWays_46 : decode cX11_closeWays 46 = .ok (.iload_n 3, 1) := by decide +kernel
theorem dX11_closeWays_47 : decode cX11_closeWays 47 = .ok (.iadd, 1) := by decide +kernel
theorem dX11_closeWays_48 : decode cX11_closeWays 48 = .ok (.iaload, 1) := by decide +kernel
end
section
theorem dX11_closeWays_49 : decode cX11_closeWays 49 = .ok (.iadd, 1) := by decide +kernel
theorem dX11_closeWays_50 : decode cX11_closeWays 50 = .ok (.invokevirtual 174, 3) := by decide +kernel
theorem dX11_closeWays_53 : decode cX11_closeWays 53 = .ok (.iinc 3 1, 3) := by decide +kernel
theorem dX11_closeWays_56 : decode cX11_closeWays 56 = .ok (.goto (-38), 3) := by decide +kernel
theorem dX11_closeWays_59 : decode cX11_closeWays 59 = .ok (.iinc 2 1, 3) := by decide +kernel
theorem dX11_closeWays_62 : decode cX11_closeWays 62 = .ok (.goto (-52), 3) := by decide +kernel
theorem dX11_closeWays_65 : decode cX11_closeWays 65 = .ok (.iinc 1 1, 3) := by decide +kernel
theorem dX11_closeWays_68 : decode cX11_closeWays 68 = .ok (.goto (-66), 3) := by decide +kernel
theorem dX11_closeWays_71 : decode cX11_closeWays 71 = .ok (.return_, 1) := by decide +kernel
theorem dX11_soonestNow_0 : decode cX11_soonestNow 0 = .ok (.aload_n 0, 1) := by decide +kernel
theorem dX11_soonestNow_1 : decode cX11_soonestNow 1 = .ok (.getfield 31, 3) := by decide +kernel
theorem dX11_soonestNow_4 : decode cX11_soonestNow 4 = .ok (.bipush 6, 2) := by decide +kernel
theorem dX11_soonestNow_6 : decode cX11_soonestNow 6 = .ok (.iload_n 1, 1) := by decide +kernel
theorem dX11_soonestNow_7 : decode cX11_soonestNow 7 = .ok (.imul, 1) := by decide +kernel
theorem dX11_soonestNow_8 : decode cX11_soonestNow 8 = .ok (.iload_n 2, 1) := by decide +kernel
theorem dX11_soonestNow_9 : decode cX11_soonestNow 9 = .ok (.iadd, 1) := by decide +kernel
theorem dX11_soonestNow_10 : decode cX11_soonestNow 10 = .ok (.iaload, 1) := by decide +kernel
theorem dX11_soonestNow_11 : decode cX11_soonestNow 11 = .ok (.istore_n 3, 1) := by decide +kernel
theorem dX11_soonestNow_12 : decode cX11_soonestNow 12 = .ok (.iload_n 3, 1) := by decide +kernel
theorem dX11_soonestNow_13 : decode cX11_soonestNow 13 = .ok (.ldc 178, 2) := by decide +kernel
theorem dX11_soonestNow_15 : decode cX11_soonestNow 15 = .ok (.if_icmp .lt 7, 3) := by decide +kernel
theorem dX11_soonestNow_18 : decode cX11_soonestNow 18 = .ok (.iconst (-1), 1) := by decide +kernel
theorem dX11_soonestNow_19 : decode cX11_soonestNow 19 = .ok (.goto 4, 3) := by decide +kernel
theorem dX11_soonestNow_22 : decode cX11_soonestNow 22 = .ok (.iload_n 3, 1) := by decide +kernel
theorem dX11_soonestNow_23 : decode cX11_soonestNow 23 = .ok (.ireturn, 1) := by decide +kernel
theorem dX11_soonest_0 : decode cX11_soonest 0 = .ok (.iload_n 1, 1) := by decide +kernel
theorem dX11_soonest_1 : decode cX11_soonest 1 = .ok (.invokestatic 76, 3) := by decide +kernel
theorem dX11_soonest_4 : decode cX11_soonest 4 = .ok (.ifCond .eq 10, 3) := by decide +kernel
theorem dX11_soonest_7 : decode cX11_soonest 7 = .ok (.iload_n 2, 1) := by decide +kernel
theorem dX11_soonest_8 : decode cX11_soonest 8 = .ok (.invokestatic 76, 3) := by decide +kernel
theorem dX11_soonest_11 : decode cX11_soonest 11 = .ok (.ifCond .ne 6, 3) := by decide +kernel
theorem dX11_soonest_14 : decode cX11_soonest 14 = .ok (.bipush (-101), 2) := by decide +kernel
theorem dX11_soonest_16 : decode cX11_soonest 16 = .ok (.ireturn, 1) := by decide +kernel
theorem dX11_soonest_17 : decode cX11_soonest 17 = .ok (.aload_n 0, 1) := by decide +kernel
theorem dX11_soonest_18 : decode cX11_soonest 18 = .ok (.iconst 0, 1) := by decide +kernel
theorem dX11_soonest_19 : decode cX11_soonest 19 = .ok (.invokevirtual 183, 3) := by decide +kernel
theorem dX11_soonest_22 : decode cX11_soonest 22 = .ok (.aload_n 0, 1) := by decide +kernel
theorem dX11_soonest_23 : decode cX11_soonest 23 = .ok (.invokevirtual 187, 3) := by decide +kernel
theorem dX11_soonest_26 : decode cX11_soonest 26 = .ok (.aload_n 0, 1) := by decide +kernel
theorem dX11_soonest_27 : decode cX11_soonest 27 = .ok (.iload_n 1, 1) := by decide +kernel
theorem dX11_soonest_28 : decode cX11_soonest 28 = .ok (.iload_n 2, 1) := by decide +kernel
theorem dX11_soonest_29 : decode cX11_soonest 29 = .ok (.invokevirtual 190, 3) := by decide +kernel
theorem dX11_soonest_32 : decode cX11_soonest 32 = .ok (.ireturn, 1) := by decide +kernel
theorem dX11_unseen_0 : decode cX11_unseen 0 = .ok (.iload_n 1, 1) := by decide +kernel
theorem dX11_unseen_1 : decode cX11_unseen 1 = .ok (.invokestatic 76, 3) := by decide +kernel
theorem dX11_unseen_4 : decode cX11_unseen 4 = .ok (.ifCond .eq 10, 3) := by decide +kernel
theorem dX11_unseen_7 : decode cX11_unseen 7 = .ok (.iload_n 2, 1) := by decide +kernel
theorem dX11_unseen_8 : decode cX11_unseen 8 = .ok (.invokestatic 76, 3) := by decide +kernel
theorem dX11_unseen_11 : decode cX11_unseen 11 = .ok (.ifCond .ne 6, 3) := by decide +kernel
theorem dX11_unseen_14 : decode cX11_unseen 14 = .ok (.bipush (-101), 2) := by decide +kernel
theorem dX11_unseen_16 : decode cX11_unseen 16 = .ok (.ireturn, 1) := by decide +kernel
theorem dX11_unseen_17 : decode cX11_unseen 17 = .ok (.iload_n 3, 1) := by decide +kernel
theorem dX11_unseen_18 : decode cX11_unseen 18 = .ok (.i2l, 1) := by decide +kernel
theorem dX11_unseen_19 : decode cX11_unseen 19 = .ok (.lconst 0, 1) := by decide +kernel
theorem dX11_unseen_20 : decode cX11_unseen 20 = .ok (.ldc2_w 193, 3) := by decide +kernel
theorem dX11_unseen_23 : decode cX11_unseen 23 = .ok (.invokestatic 70, 3) := by decide +kernel
theorem dX11_unseen_26 : decode cX11_unseen 26 = .ok (.ifCond .ne 6, 3) := by decide +kernel
theorem dX11_unseen_29 : decode cX11_unseen 29 = .ok (.bipush (-102), 2) := by decide +kernel
theorem dX11_unseen_31 : decode cX11_unseen 31 = .ok (.ireturn, 1) := by decide +kernel
theorem dX11_unseen_32 : decode cX11_unseen 32 = .ok (.aload_n 0, 1) := by decide +kernel
theorem dX11_unseen_33 : decode cX11_unseen 33 = .ok (.iload_n 3, 1) := by decide +kernel
theorem dX11_unseen_34 : decode cX11_unseen 34 = .ok (.invokevirtual 183, 3) := by decide +kernel
theorem dX11_unseen_37 : decode cX11_unseen 37 = .ok (.aload_n 0, 1) := by decide +kernel
theorem dX11_unseen_38 : decode cX11_unseen 38 = .ok (.invokevirtual 187, 3) := by decide +kernel
theorem dX11_unseen_41 : decode cX11_unseen 41 = .ok (.aload_n 0, 1) := by decide +kernel
theorem dX11_unseen_42 : decode cX11_unseen 42 = .ok (.iload_n 1, 1) := by decide +kernel
theorem dX11_unseen_43 : decode cX11_unseen 43 = .ok (.iload_n 2, 1) := by decide +kernel
theorem dX11_unseen_44 : decode cX11_unseen 44 = .ok (.invokevirtual 190, 3) := by decide +kernel
theorem dX11_unseen_47 : decode cX11_unseen 47 = .ok (.ireturn, 1) := by decide +kernel
theorem dX11_isSoon_0 : decode cX11_isSoon 0 = .ok (.aload_n 0, 1) := by decide +kernel
theorem dX11_isSoon_1 : decode cX11_isSoon 1 = .ok (.iconst 0, 1) := by decide +kernel
theorem dX11_isSoon_2 : decode cX11_isSoon 2 = .ok (.invokevirtual 183, 3) := by decide +kernel
theorem dX11_isSoon_5 : decode cX11_isSoon 5 = .ok (.iload_n 2, 1) := by decide +kernel
theorem dX11_isSoon_6 : decode cX11_isSoon 6 = .ok (.iconst (-1), 1) := by decide +kernel
theorem dX11_isSoon_7 : decode cX11_isSoon 7 = .ok (.if_icmp .eq 29, 3) := by decide +kernel
theorem dX11_isSoon_10 : decode cX11_isSoon 10 = .ok (.aload_n 0, 1) := by decide +kernel
theorem dX11_isSoon_11 : decode cX11_isSoon 11 = .ok (.iload_n 2, 1) := by decide +kernel
theorem dX11_isSoon_12 : decode cX11_isSoon 12 = .ok (.bipush 6, 2) := by decide +kernel
theorem dX11_isSoon_14 : decode cX11_isSoon 14 = .ok (.idiv, 1) := by decide +kernel
theorem dX11_isSoon_15 : decode cX11_isSoon 15 = .ok (.iload_n 2, 1) := by decide +kernel
theorem dX11_isSoon_16 : decode cX11_isSoon 16 = .ok (.bipush 6, 2) := by decide +kernel
theorem dX11_isSoon_18 : decode cX11_isSoon 18 = .ok (.irem, 1) := by decide +kernel
theorem dX11_isSoon_19 : decode cX11_isSoon 19 = .ok (.iconst 1, 1) := by decide +kernel
theorem dX11_isSoon_20 : decode cX11_isSoon 20 = .ok (.invokevirtual 174, 3) := by decide +kernel
theorem dX11_isSoon_23 : decode cX11_isSoon 23 = .ok (.aload_n 0, 1) := by decide +kernel
theorem dX11_isSoon_24 : decode cX11_isSoon 24 = .ok (.iload_n 2, 1) := by decide +kernel
theorem dX11_isSoon_25 : decode cX11_isSoon 25 = .ok (.bipush 6, 2) := by decide +kernel
theorem dX11_isSoon_27 : decode cX11_isSoon 27 = .ok (.irem, 1) := by decide +kernel
theorem dX11_isSoon_28 : decode cX11_isSoon 28 = .ok (.iload_n 2, 1) := by decide +kernel
theorem dX11_isSoon_29 : decode cX11_isSoon 29 = .ok (.bipush 6, 2) := by decide +kernel
theorem dX11_isSoon_31 : decode cX11_isSoon 31 = .ok (.idiv, 1) := by decide +kernel
theorem dX11_isSoon_32 : decode cX11_isSoon 32 = .ok (.iconst 1, 1) := by decide +kernel
theorem dX11_isSoon_33 : decode cX11_isSoon 33 = .ok (.invokevirtual 174, 3) := by decide +kernel
theorem dX11_isSoon_36 : decode cX11_isSoon 36 = .ok (.iload_n 3, 1) := by decide +kernel
theorem dX11_isSoon_37 : decode cX11_isSoon 37 = .ok (.iconst (-1), 1) := by decide +kernel
theorem dX11_isSoon_38 : decode cX11_isSoon 38 = .ok (.if_icmp .eq 29, 3) := by decide +kernel
theorem dX11_isSoon_41 : decode cX11_isSoon 41 = .ok (.aload_n 0, 1) := by decide +kernel
theorem dX11_isSoon_42 : decode cX11_isSoon 42 = .ok (.iload_n 3, 1) := by decide +kernel
theorem dX11_isSoon_43 : decode cX11_isSoon 43 = .ok (.bipush 6, 2) := by decide +kernel
theorem dX11_isSoon_45 : decode cX11_isSoon 45 = .ok (.idiv, 1) := by decide +kernel
theorem dX11_isSoon_46 : decode cX11_isSoon 46 = .ok (.iload_n 3, 1) := by decide +kernel
theorem dX11_isSoon_47 : decode cX11_isSoon 47 = .ok (.bipush 6, 2) := by decide +kernel
theorem dX11_isSoon_49 : decode cX11_isSoon 49 = .ok (.irem, 1) := by decide +kernel
theorem dX11_isSoon_50 : decode cX11_isSoon 50 = .ok (.iconst 1, 1) := by decide +kernel
theorem dX11_isSoon_51 : decode cX11_isSoon 51 = .ok (.invokevirtual 174, 3) := by decide +kernel
theorem dX11_isSoon_54 : decode cX11_isSoon 54 = .ok (.aload_n 0, 1) := by decide +kernel
theorem dX11_isSoon_55 : decode cX11_isSoon 55 = .ok (.iload_n 3, 1) := by decide +kernel
theorem dX11_isSoon_56 : decode cX11_isSoon 56 = .ok (.bipush 6, 2) := by decide +kernel
theorem dX11_isSoon_58 : decode cX11_isSoon 58 = .ok (.irem, 1) := by decide +kernel
theorem dX11_isSoon_59 : decode cX11_isSoon 59 = .ok (.iload_n 3, 1) := by decide +kernel
theorem dX11_isSoon_60 : decode cX11_isSoon 60 = .ok (.bipush 6, 2) := by decide +kernel
theorem dX11_isSoon_62 : decode cX11_isSoon 62 = .ok (.idiv, 1) := by decide +kernel
theorem dX11_isSoon_63 : decode cX11_isSoon 63 = .ok (.iconst 1, 1) := by decide +kernel
theorem dX11_isSoon_64 : decode cX11_isSoon 64 = .ok (.invokevirtual 174, 3) := by decide +kernel
theorem dX11_isSoon_67 : decode cX11_isSoon 67 = .ok (.aload_n 0, 1) := by decide +kernel
theorem dX11_isSoon_68 : decode cX11_isSoon 68 = .ok (.invokevirtual 187, 3) := by decide +kernel
theorem dX11_isSoon_71 : decode cX11_isSoon 71 = .ok (.iconst 1, 1) := by decide +kernel
theorem dX11_isSoon_72 : decode cX11_isSoon 72 = .ok (.istore 4, 2) := by decide +kernel
theorem dX11_isSoon_74 : decode cX11_isSoon 74 = .ok (.iconst 0, 1) := by decide +kernel
theorem dX11_isSoon_75 : decode cX11_isSoon 75 = .ok (.istore 5, 2) := by decide +kernel
theorem dX11_isSoon_77 : decode cX11_isSoon 77 = .ok (.iload 5, 2) := by decide +kernel
theorem dX11_isSoon_79 : decode cX11_isSoon 79 = .ok (.bipush 36, 2) := by decide +kernel
theorem dX11_isSoon_81 : decode cX11_isSoon 81 = .ok (.if_icmp .ge 32, 3) := by decide +kernel
theorem dX11_isSoon_84 : decode cX11_isSoon 84 = .ok (.iload 4, 2) := by decide +kernel
theorem dX11_isSoon_86 : decode cX11_isSoon 86 = .ok (.ifCond .eq 18, 3) := by decide +kernel
theorem dX11_isSoon_89 : decode cX11_isSoon 89 = .ok (.aload_n 0, 1) := by decide +kernel
theorem dX11_isSoon_90 : decode cX11_isSoon 90 = .ok (.getfield 31, 3) := by decide +kernel
theorem dX11_isSoon_93 : decode cX11_isSoon 93 = .ok (.iload 5, 2) := by decide +kernel
theorem dX11_isSoon_95 : decode cX11_isSoon 95 = .ok (.iaload, 1) := by decide +kernel
theorem dX11_isSoon_96 : decode cX11_isSoon 96 = .ok (.iload_n 1, 1) := by decide +kernel
theorem dX11_isSoon_97 : decode cX11_isSoon 97 = .ok (.if_icmp .gt 7, 3) := by decide +kernel
theorem dX11_isSoon_100 : decode cX11_isSoon 100 = .ok (.iconst 1, 1) := by decide +kernel
theorem dX11_isSoon_101 : decode cX11_isSoon 101 = .ok (.goto 4, 3) := by decide +kernel
theorem dX11_isSoon_104 : decode cX11_isSoon 104 = .ok (.iconst 0, 1) := by decide +kernel
theorem dX11_isSoon_105 : decode cX11_isSoon 105 = .ok (.istore 4, 2) := by decide +kernel
theorem dX11_isSoon_107 : decode cX11_isSoon 107 = .ok (.iinc 5 1, 3) := by decide +kernel
theorem dX11_isSoon_110 : decode cX11_isSoon 110 = .ok (.goto (-33), 3) := by decide +kernel
theorem dX11_isSoon_113 : decode cX11_isSoon 113 = .ok (.iload 4, 2) := by decide +kernel
theorem dX11_isSoon_115 : decode cX11_isSoon 115 = .ok (.ireturn, 1) := by decide +kernel
theorem dX11_tellPairs_0 : decode cX11_tellPairs 0 = .ok (.iload_n 3, 1) := by decide +kernel
theorem dX11_tellPairs_1 : decode cX11_tellPairs 1 = .ok (.iconst 3, 1) := by decide +kernel
theorem dX11_tellPairs_2 : decode cX11_tellPairs 2 = .ok (.if_icmp .ge 7, 3) := by decide +kernel
theorem dX11_tellPairs_5 : decode cX11_tellPairs 5 = .ok (.iload_n 1, 1) := by decide +kernel
theorem dX11_tellPairs_6 : decode cX11_tellPairs 6 = .ok (.goto 4, 3) := by decide +kernel
theorem dX11_tellPairs_9 : decode cX11_tellPairs 9 = .ok (.iload_n 2, 1) := by decide +kernel
theorem dX11_tellPairs_10 : decode cX11_tellPairs 10 = .ok (.istore 4, 2) := by decide +kernel
theorem dX11_tellPairs_12 : decode cX11_tellPairs 12 = .ok (.iload_n 3, 1) := by decide +kernel
theorem dX11_tellPairs_13 : decode cX11_tellPairs 13 = .ok (.ifCond .ne 7, 3) := by decide +kernel
theorem dX11_tellPairs_16 : decode cX11_tellPairs 16 = .ok (.iload_n 0, 1) := by decide +kernel
theorem dX11_tellPairs_17 : decode cX11_tellPairs 17 = .ok (.goto 33, 3) := by decide +kernel
theorem dX11_tellPairs_20 : decode cX11_tellPairs 20 = .ok (.iload 4, 2) := by decide +kernel
theorem dX11_tellPairs_22 : decode cX11_tellPairs 22 = .ok (.iconst (-1), 1) := by decide +kernel
theorem dX11_tellPairs_23 : decode cX11_tellPairs 23 = .ok (.if_icmp .ne 7, 3) := by decide +kernel
theorem dX11_tellPairs_26 : decode cX11_tellPairs 26 = .ok (.iconst (-1), 1) := by decide +kernel
theorem dX11_tellPairs_27 : decode cX11_tellPairs 27 = .ok (.goto 23, 3) := by decide +kernel
theorem dX11_tellPairs_30 : decode cX11_tellPairs 30 = .ok (.iload_n 3, 1) := by decide +kernel
theorem dX11_tellPairs_31 : decode cX11_tellPairs 31 = .ok (.iconst 2, 1) := by decide +kernel
theorem dX11_tellPairs_32 : decode cX11_tellPairs 32 = .ok (.irem, 1) := by decide +kernel
theorem dX11_tellPairs_33 : decode cX11_tellPairs 33 = .ok (.iconst 1, 1) := by decide +kernel
theorem dX11_tellPairs_34 : decode cX11_tellPairs 34 = .ok (.if_icmp .ne 11, 3) := by decide +kernel
theorem dX11_tellPairs_37 : decode cX11_tellPairs 37 = .ok (.iload 4, 2) := by decide +kernel
theorem dX11_tellPairs_39 : decode cX11_tellPairs 39 = .ok (.bipush 6, 2) := by decide +kernel
theorem dX11_tellPairs_41 : decode cX11_tellPairs 41 = .ok (.idiv, 1) := by decide +kernel
theorem dX11_tellPairs_42 : decode cX11_tellPairs 42 = .ok (.goto 8, 3) := by decide +kernel
theorem dX11_tellPairs_45 : decode cX11_tellPairs 45 = .ok (.iload 4, 2) := by decide +kernel
theorem dX11_tellPairs_47 : decode cX11_tellPairs 47 = .ok (.bipush 6, 2) := by decide +kernel
theorem dX11_tellPairs_49 : decode cX11_tellPairs 49 = .ok (.irem, 1) := by decide +kernel
theorem dX11_tellPairs_50 : decode cX11_tellPairs 50 = .ok (.ireturn, 1) := by decide +kernel
theorem dX11_kept_0 : decode cX11_kept 0 = .ok (.iload_n 1, 1) := by decide +kernel
theorem dX11_kept_1 : decode cX11_kept 1 = .ok (.i2l, 1) := by decide +kernel
theorem dX11_kept_2 : decode cX11_kept 2 = .ok (.lconst 0, 1) := by decide +kernel
theorem dX11_kept_3 : decode cX11_kept 3 = .ok (.ldc2_w 137, 3) := by decide +kernel
theorem dX11_kept_6 : decode cX11_kept 6 = .ok (.invokestatic 70, 3) := by decide +kernel
theorem dX11_kept_9 : decode cX11_kept 9 = .ok (.ifCond .eq 15, 3) := by decide +kernel
theorem dX11_kept_12 : decode cX11_kept 12 = .ok (.iload_n 2, 1) := by decide +kernel
theorem dX11_kept_13 : decode cX11_kept 13 = .ok (.i2l, 1) := by decide +kernel
theorem dX11_kept_14 : decode cX11_kept 14 = .ok (.lconst 0, 1) := by decide +kernel
theorem dX11_kept_15 : decode cX11_kept 15 = .ok (.ldc2_w 195, 3) := by decide +kernel
theorem dX11_kept_18 : decode cX11_kept 18 = .ok (.invokestatic 70, 3) := by decide +kernel
theorem dX11_kept_21 : decode cX11_kept 21 = .ok (.ifCond .ne 6, 3) := by decide +kernel
theorem dX11_kept_24 : decode cX11_kept 24 = .ok (.bipush (-102), 2) := by decide +kernel
theorem dX11_kept_26 : decode cX11_kept 26 = .ok (.ireturn, 1) := by decide +kernel
theorem dX11_kept_27 : decode cX11_kept 27 = .ok (.aload_n 0, 1) := by decide +kernel
theorem dX11_kept_28 : decode cX11_kept 28 = .ok (.getfield 197, 3) := by decide +kernel
theorem dX11_kept_31 : decode cX11_kept 31 = .ok (.bipush 20, 2) := by decide +kernel
theorem dX11_kept_33 : decode cX11_kept 33 = .ok (.if_icmp .ne 6, 3) := by decide +kernel
theorem dX11_kept_36 : decode cX11_kept 36 = .ok (.bipush (-103), 2) := by decide +kernel
theorem dX11_kept_38 : decode cX11_kept 38 = .ok (.ireturn, 1) := by decide +kernel
theorem dX11_kept_39 : decode cX11_kept 39 = .ok (.aload_n 0, 1) := by decide +kernel
theorem dX11_kept_40 : decode cX11_kept 40 = .ok (.dup, 1) := by decide +kernel
theorem dX11_kept_41 : decode cX11_kept 41 = .ok (.getfield 197, 3) := by decide +kernel
theorem dX11_kept_44 : decode cX11_kept 44 = .ok (.iconst 1, 1) := by decide +kernel
theorem dX11_kept_45 : decode cX11_kept 45 = .ok (.iadd, 1) := by decide +kernel
theorem dX11_kept_46 : decode cX11_kept 46 = .ok (.putfield 197, 3) := by decide +kernel
theorem dX11_kept_49 : decode cX11_kept 49 = .ok (.aload_n 0, 1) := by decide +kernel
theorem dX11_kept_50 : decode cX11_kept 50 = .ok (.iload_n 1, 1) := by decide +kernel
theorem dX11_kept_51 : decode cX11_kept 51 = .ok (.iconst (-1), 1) := by decide +kernel
theorem dX11_kept_52 : decode cX11_kept 52 = .ok (.iconst (-1), 1) := by decide +kernel
theorem dX11_kept_53 : decode cX11_kept 53 = .ok (.invokevirtual 200, 3) := by decide +kernel
theorem dX11_kept_56 : decode cX11_kept 56 = .ok (.ifCond .eq 11, 3) := by decide +kernel
theorem dX11_kept_59 : decode cX11_kept 59 = .ok (.iconst 0, 1) := by decide +kernel
theorem dX11_kept_60 : decode cX11_kept 60 = .ok (.iconst (-1), 1) := by decide +kernel
theorem dX11_kept_61 : decode cX11_kept 61 = .ok (.iconst (-1), 1) := by decide +kernel
theorem dX11_kept_62 : decode cX11_kept 62 = .ok (.iload_n 2, 1) := by decide +kernel
theorem dX11_kept_63 : decode cX11_kept 63 = .ok (.invokestatic 204, 3) := by decide +kernel
theorem dX11_kept_66 : decode cX11_kept 66 = .ok (.ireturn, 1) := by decide +kernel
theorem dX11_kept_67 : decode cX11_kept 67 = .ok (.iconst 0, 1) := by decide +kernel
theorem dX11_kept_68 : decode cX11_kept 68 = .ok (.istore_n 3, 1) := by decide +kernel
theorem dX11_kept_69 : decode cX11_kept 69 = .ok (.iload_n 3, 1) := by decide +kernel
theorem dX11_kept_70 : decode cX11_kept 70 = .ok (.bipush 36, 2) := by decide +kernel
theorem dX11_kept_72 : decode cX11_kept 72 = .ok (.if_icmp .ge 38, 3) := by decide +kernel
theorem dX11_kept_75 : decode cX11_kept 75 = .ok (.iload_n 3, 1) := by decide +kernel
theorem dX11_kept_76 : decode cX11_kept 76 = .ok (.bipush 6, 2) := by decide +kernel
theorem dX11_kept_78 : decode cX11_kept 78 = .ok (.idiv, 1) := by decide +kernel
theorem dX11_kept_79 : decode cX11_kept 79 = .ok (.iload_n 3, 1) := by decide +kernel
theorem dX11_kept_80 : decode cX11_kept 80 = .ok (.bipush 6, 2) := by decide +kernel
theorem dX11_kept_82 : decode cX11_kept 82 = .ok (.irem, 1) := by decide +kernel
theorem dX11_kept_83 : decode cX11_kept 83 = .ok (.if_icmp .ge 21, 3) := by decide +kernel
theorem dX11_kept_86 : decode cX11_kept 86 = .ok (.aload_n 0, 1) := by decide +kernel
theorem dX11_kept_87 : decode cX11_kept 87 = .ok (.iload_n 1, 1) := by decide +kernel
theorem dX11_kept_88 : decode cX11_kept 88 = .ok (.iload_n 3, 1) := by decide +kernel
theorem dX11_kept_89 : decode cX11_kept 89 = .ok (.iconst (-1), 1) := by decide +kernel
theorem dX11_kept_90 : decode cX11_kept 90 = .ok (.invokevirtual 200, 3) := by decide +kernel
theorem dX11_kept_93 : decode cX11_kept 93 = .ok (.ifCond .eq 11, 3) := by decide +kernel
theorem dX11_kept_96 : decode cX11_kept 96 = .ok (.iconst 1, 1) := by decide +kernel
theorem dX11_kept_97 : decode cX11_kept 97 = .ok (.iload_n 3, 1) := by decide +kernel
theorem dX11_kept_98 : decode cX11_kept 98 = .ok (.iconst (-1), 1) := by decide +kernel
theorem dX11_kept_99 : decode cX11_kept 99 = .ok (.iload_n 2, 1) := by decide +kernel
theorem dX11_kept_100 : decode cX11_kept 100 = .ok (.invokestatic 204, 3) := by decide +kernel
theorem dX11_kept_103 : decode cX11_kept 103 = .ok (.ireturn, 1) := by decide +kernel
theorem dX11_kept_104 : decode cX11_kept 104 = .ok (.iinc 3 1, 3) := by decide +kernel
theorem dX11_kept_107 : decode cX11_kept 107 = .ok (.goto (-38), 3) := by decide +kernel
theorem dX11_kept_110 : decode cX11_kept 110 = .ok (.iconst 0, 1) := by decide +kernel
theorem dX11_kept_111 : decode cX11_kept 111 = .ok (.istore_n 3, 1) := by decide +kernel
theorem dX11_kept_112 : decode cX11_kept 112 = .ok (.iload_n 3, 1) := by decide +kernel
theorem dX11_kept_113 : decode cX11_kept 113 = .ok (.bipush 36, 2) := by decide +kernel
theorem dX11_kept_115 : decode cX11_kept 115 = .ok (.if_icmp .ge 71, 3) := by decide +kernel
theorem dX11_kept_118 : decode cX11_kept 118 = .ok (.iload_n 3, 1) := by decide +kernel
theorem dX11_kept_119 : decode cX11_kept 119 = .ok (.iconst 1, 1) := by decide +kernel
theorem dX11_kept_120 : decode cX11_kept 120 = .ok (.iadd, 1) := by decide +kernel
theorem dX11_kept_121 : decode cX11_kept 121 = .ok (.istore 4, 2) := by decide +kernel
theorem dX11_kept_123 : decode cX11_kept 123 = .ok (.iload 4, 2) := by decide +kernel
theorem dX11_kept_125 : decode cX11_kept 125 = .ok (.bipush 36, 2) := by decide +kernel
theorem dX11_kept_127 : decode cX11_kept 127 = .ok (.if_icmp .ge 53, 3) := by decide +kernel
theorem dX11_kept_130 : decode cX11_kept 130 = .ok (.iload_n 3, 1) := by decide +kernel
theorem dX11_kept_131 : decode cX11_kept 131 = .ok (.bipush 6, 2) := by decide +kernel
theorem dX11_kept_133 : decode cX11_kept 133 = .ok (.idiv, 1) := by decide +kernel
theorem dX11_kept_134 : decode cX11_kept 134 = .ok (.iload_n 3, 1) := by decide +kernel
theorem dX11_kept_135 : decode cX11_kept 135 = .ok (.bipush 6, 2) := by decide +kernel
theorem dX11_kept_137 : decode cX11_kept 137 = .ok (.irem, 1) := by decide +kernel
theorem dX11_kept_138 : decode cX11_kept 138 = .ok (.if_icmp .ge 42, 3) := by decide +kernel
theorem dX11_kept_141 : decode cX11_kept 141 = .ok (.iload 4, 2) := by decide +kernel
theorem dX11_kept_143 : decode cX11_kept 143 = .ok (.bipush 6, 2) := by decide +kernel
theorem dX11_kept_145 : decode cX11_kept 145 = .ok (.idiv, 1) := by decide +kernel
theorem dX11_kept_146 : decode cX11_kept 146 = .ok (.iload 4, 2) := by decide +kernel
theorem dX11_kept_148 : decode cX11_kept 148 = .ok (.bipush 6, 2) := by decide +kernel
theorem dX11_kept_150 : decode cX11_kept 150 = .ok (.irem, 1) := by decide +kernel
theorem dX11_kept_151 : decode cX11_kept 151 = .ok (.if_icmp .ge 23, 3) := by decide +kernel
theorem dX11_kept_154 : decode cX11_kept 154 = .ok (.aload_n 0, 1) := by decide +kernel
theorem dX11_kept_155 : decode cX11_kept 155 = .ok (.iload_n 1, 1) := by decide +kernel
theorem dX11_kept_156 : decode cX11_kept 156 = .ok (.iload_n 3, 1) := by decide +kernel
theorem dX11_kept_157 : decode cX11_kept 157 = .ok (.iload 4, 2) := by decide +kernel
theorem dX11_kept_159 : decode cX11_kept 159 = .ok (.invokevirtual 200, 3) := by decide +kernel
theorem dX11_kept_162 : decode cX11_kept 162 = .ok (.ifCond .eq 12, 3) := by decide +kernel
theorem dX11_kept_165 : decode cX11_kept 165 = .ok (.iconst 2, 1) := by decide +kernel
theorem dX11_kept_166 : decode cX11_kept 166 = .ok (.iload_n 3, 1) := by decide +kernel
theorem dX11_kept_167 : decode cX11_kept 167 = .ok (.iload 4, 2) := by decide +kernel
theorem dX11_kept_169 : decode cX11_kept 169 = .ok (.iload_n 2, 1) := by decide +kernel
theorem dX11_kept_170 : decode cX11_kept 170 = .ok (.invokestatic 204, 3) := by decide +kernel
theorem dX11_kept_173 : decode cX11_kept 173 = .ok (.ireturn, 1) := by decide +kernel
theorem dX11_kept_174 : decode cX11_kept 174 = .ok (.iinc 4 1, 3) := by decide +kernel
theorem dX11_kept_177 : decode cX11_kept 177 = .ok (.goto (-54), 3) := by decide +kernel
theorem dX11_kept_180 : decode cX11_kept 180 = .ok (.iinc 3 1, 3) := by decide +kernel
theorem dX11_kept_183 : decode cX11_kept 183 = .ok (.goto (-71), 3) := by decide +kernel
theorem dX11_kept_186 : decode cX11_kept 186 = .ok (.iconst (-1), 1) := by decide +kernel
theorem dX11_kept_187 : decode cX11_kept 187 = .ok (.ireturn, 1) := by decide +kernel
theorem dX11_areWords_0 : decode cX11_areWords 0 = .ok (.iload_n 0, 1) := by decide +kernel
theorem dX11_areWords_1 : decode cX11_areWords 1 = .ok (.i2l, 1) := by decide +kernel
theorem dX11_areWords_2 : decode cX11_areWords 2 = .ok (.lconst 1, 1) := by decide +kernel
theorem dX11_areWords_3 : decode cX11_areWords 3 = .ok (.ldc2_w 128, 3) := by decide +kernel
theorem dX11_areWords_6 : decode cX11_areWords 6 = .ok (.invokestatic 70, 3) := by decide +kernel
theorem dX11_areWords_9 : decode cX11_areWords 9 = .ok (.ifCond .eq 19, 3) := by decide +kernel
theorem dX11_areWords_12 : decode cX11_areWords 12 = .ok (.iload_n 1, 1) := by decide +kernel
theorem dX11_areWords_13 : decode cX11_areWords 13 = .ok (.i2l, 1) := by decide +kernel
theorem dX11_areWords_14 : decode cX11_areWords 14 = .ok (.lconst 0, 1) := by decide +kernel
theorem dX11_areWords_15 : decode cX11_areWords 15 = .ok (.ldc2_w 207, 3) := by decide +kernel
theorem dX11_areWords_18 : decode cX11_areWords 18 = .ok (.invokestatic 70, 3) := by decide +kernel
theorem dX11_areWords_21 : decode cX11_areWords 21 = .ok (.ifCond .eq 7, 3) := by decide +kernel
theorem dX11_areWords_24 : decode cX11_areWords 24 = .ok (.iconst 1, 1) := by decide +kernel
theorem dX11_areWords_25 : decode cX11_areWords 25 = .ok (.goto 4, 3) := by decide +kernel
theorem dX11_areWords_28 : decode cX11_areWords 28 = .ok (.iconst 0, 1) := by decide +kernel
theorem dX11_areWords_29 : decode cX11_areWords 29 = .ok (.ireturn, 1) := by decide +kernel
theorem dX11_ones_0 : decode cX11_ones 0 = .ok (.iconst 0, 1) := by decide +kernel
theorem dX11_ones_1 : decode cX11_ones 1 = .ok (.istore_n 1, 1) := by decide +kernel
theorem dX11_ones_2 : decode cX11_ones 2 = .ok (.iconst 0, 1) := by decide +kernel
theorem dX11_ones_3 : decode cX11_ones 3 = .ok (.istore_n 2, 1) := by decide +kernel
theorem dX11_ones_4 : decode cX11_ones 4 = .ok (.iload_n 2, 1) := by decide +kernel
theorem dX11_ones_5 : decode cX11_ones 5 = .ok (.bipush 16, 2) := by decide +kernel
theorem dX11_ones_7 : decode cX11_ones 7 = .ok (.if_icmp .ge 17, 3) := by decide +kernel
theorem dX11_ones_10 : decode cX11_ones 10 = .ok (.iload_n 1, 1) := by decide +kernel
theorem dX11_ones_11 : decode cX11_ones 11 = .ok (.iload_n 0, 1) := by decide +kernel
theorem dX11_ones_12 : decode cX11_ones 12 = .ok (.iload_n 2, 1) := by decide +kernel
theorem dX11_ones_13 : decode cX11_ones 13 = .ok (.ishr, 1) := by decide +kernel
theorem dX11_ones_14 : decode cX11_ones 14 = .ok (.iconst 1, 1) := by decide +kernel
theorem dX11_ones_15 : decode cX11_ones 15 = .ok (.iand, 1) := by decide +kernel
theorem dX11_ones_16 : decode cX11_ones 16 = .ok (.iadd, 1) := by decide +kernel
theorem dX11_ones_17 : decode cX11_ones 17 = .ok (.istore_n 1, 1) := by decide +kernel
theorem dX11_ones_18 : decode cX11_ones 18 = .ok (.iinc 2 1, 3) := by decide +kernel
theorem dX11_ones_21 : decode cX11_ones 21 = .ok (.goto (-17), 3) := by decide +kernel
theorem dX11_ones_24 : decode cX11_ones 24 = .ok (.iload_n 1, 1) := by decide +kernel
theorem dX11_ones_25 : decode cX11_ones 25 = .ok (.ireturn, 1) := by decide +kernel
theorem dX11_manyWords_0 : decode cX11_manyWords 0 = .ok (.iconst 0, 1) := by decide +kernel
theorem dX11_manyWords_1 : decode cX11_manyWords 1 = .ok (.istore_n 3, 1) := by decide +kernel
theorem dX11_manyWords_2 : decode cX11_manyWords 2 = .ok (.iconst 0, 1) := by decide +kernel
theorem dX11_manyWords_3 : decode cX11_manyWords 3 = .ok (.istore 4, 2) := by decide +kernel
theorem dX11_manyWords_5 : decode cX11_manyWords 5 = .ok (.iload 4, 2) := by decide +kernel
theorem dX11_manyWords_7 : decode cX11_manyWords 7 = .ok (.iconst 1, 1) := by decide +kernel
theorem dX11_manyWords_8 : decode cX11_manyWords 8 = .ok (.iload_n 0, 1) := by decide +kernel
theorem dX11_manyWords_9 : decode cX11_manyWords 9 = .ok (.ishl, 1) := by decide +kernel
theorem dX11_manyWords_10 : decode cX11_manyWords 10 = .ok (.if_icmp .ge 55, 3) := by decide +kernel
theorem dX11_manyWords_13 : decode cX11_manyWords 13 = .ok (.iconst 1, 1) := by decide +kernel
theorem dX11_manyWords_14 : decode cX11_manyWords 14 = .ok (.istore 5, 2) := by decide +kernel
theorem dX11_manyWords_16 : decode cX11_manyWords 16 = .ok (.iconst 0, 1) := by decide +kernel
theorem dX11_manyWords_17 : decode cX11_manyWords 17 = .ok (.istore 6, 2) := by decide +kernel
theorem dX11_manyWords_19 : decode cX11_manyWords 19 = .ok (.iload 6, 2) := by decide +kernel
theorem dX11_manyWords_21 : decode cX11_manyWords 21 = .ok (.iload 4, 2) := by decide +kernel
theorem dX11_manyWords_23 : decode cX11_manyWords 23 = .ok (.invokestatic 209, 3) := by decide +kernel
theorem dX11_manyWords_26 : decode cX11_manyWords 26 = .ok (.if_icmp .ge 15, 3) := by decide +kernel
theorem dX11_manyWords_29 : decode cX11_manyWords 29 = .ok (.iload 5, 2) := by decide +kernel
theorem dX11_manyWords_31 : decode cX11_manyWords 31 = .ok (.iload_n 1, 1) := by decide +kernel
theorem dX11_manyWords_32 : decode cX11_manyWords 32 = .ok (.imul, 1) := by decide +kernel
theorem dX11_manyWords_33 : decode cX11_manyWords 33 = .ok (.istore 5, 2) := by decide +kernel
theorem dX11_manyWords_35 : decode cX11_manyWords 35 = .ok (.iinc 6 1, 3) := by decide +kernel
theorem dX11_manyWords_38 : decode cX11_manyWords 38 = .ok (.goto (-19), 3) := by decide +kernel
theorem dX11_manyWords_41 : decode cX11_manyWords 41 = .ok (.iload_n 3, 1) := by decide +kernel
theorem dX11_manyWords_42 : decode cX11_manyWords 42 = .ok (.iload 4, 2) := by decide +kernel
theorem dX11_manyWords_44 : decode cX11_manyWords 44 = .ok (.invokestatic 209, 3) := by decide +kernel
theorem dX11_manyWords_47 : decode cX11_manyWords 47 = .ok (.iload_n 2, 1) := by decide +kernel
theorem dX11_manyWords_48 : decode cX11_manyWords 48 = .ok (.if_icmp .gt 8, 3) := by decide +kernel
theorem dX11_manyWords_51 : decode cX11_manyWords 51 = .ok (.iload 5, 2) := by decide +kernel
theorem dX11_manyWords_53 : decode cX11_manyWords 53 = .ok (.goto 4, 3) := by decide +kernel
theorem dX11_manyWords_56 : decode cX11_manyWords 56 = .ok (.iconst 0, 1) := by decide +kernel
theorem dX11_manyWords_57 : decode cX11_manyWords 57 = .ok (.iadd, 1) := by decide +kernel
theorem dX11_manyWords_58 : decode cX11_manyWords 58 = .ok (.istore_n 3, 1) := by decide +kernel
theorem dX11_manyWords_59 : decode cX11_manyWords 59 = .ok (.iinc 4 1, 3) := by decide +kernel
theorem dX11_manyWords_62 : decode cX11_manyWords 62 = .ok (.goto (-57), 3) := by decide +kernel
theorem dX11_manyWords_65 : decode cX11_manyWords 65 = .ok (.iload_n 3, 1) := by decide +kernel
theorem dX11_manyWords_66 : decode cX11_manyWords 66 = .ok (.ireturn, 1) := by decide +kernel
theorem dX11_words_0 : decode cX11_words 0 = .ok (.iload_n 1, 1) := by decide +kernel
theorem dX11_words_1 : decode cX11_words 1 = .ok (.i2l, 1) := by decide +kernel
theorem dX11_words_2 : decode cX11_words 2 = .ok (.lconst 1, 1) := by decide +kernel
theorem dX11_words_3 : decode cX11_words 3 = .ok (.ldc2_w 207, 3) := by decide +kernel
theorem dX11_words_6 : decode cX11_words 6 = .ok (.invokestatic 70, 3) := by decide +kernel
theorem dX11_words_9 : decode cX11_words 9 = .ok (.ifCond .eq 20, 3) := by decide +kernel
theorem dX11_words_12 : decode cX11_words 12 = .ok (.iload_n 2, 1) := by decide +kernel
theorem dX11_words_13 : decode cX11_words 13 = .ok (.iload_n 3, 1) := by decide +kernel
theorem dX11_words_14 : decode cX11_words 14 = .ok (.invokestatic 213, 3) := by decide +kernel
theorem dX11_words_17 : decode cX11_words 17 = .ok (.ifCond .eq 12, 3) := by decide +kernel
theorem dX11_words_20 : decode cX11_words 20 = .ok (.iload_n 1, 1) := by decide +kernel
theorem dX11_words_21 : decode cX11_words 21 = .ok (.iload_n 2, 1) := by decide +kernel
theorem dX11_words_22 : decode cX11_words 22 = .ok (.iload_n 3, 1) := by decide +kernel
theorem dX11_words_23 : decode cX11_words 23 = .ok (.invokestatic 216, 3) := by decide +kernel
theorem dX11_words_26 : decode cX11_words 26 = .ok (.goto 5, 3) := by decide +kernel
theorem dX11_words_29 : decode cX11_words 29 = .ok (.bipush (-102), 2) := by decide +kernel
theorem dX11_words_31 : decode cX11_words 31 = .ok (.ireturn, 1) := by decide +kernel
theorem dX11_least_0 : decode cX11_least 0 = .ok (.iload_n 1, 1) := by decide +kernel
theorem dX11_least_1 : decode cX11_least 1 = .ok (.i2l, 1) := by decide +kernel
theorem dX11_least_2 : decode cX11_least 2 = .ok (.lconst 1, 1) := by decide +kernel
theorem dX11_least_3 : decode cX11_least 3 = .ok (.ldc2_w 220, 3) := by decide +kernel
theorem dX11_least_6 : decode cX11_least 6 = .ok (.invokestatic 70, 3) := by decide +kernel
theorem dX11_least_9 : decode cX11_least 9 = .ok (.ifCond .eq 11, 3) := by decide +kernel
theorem dX11_least_12 : decode cX11_least 12 = .ok (.iload_n 2, 1) := by decide +kernel
theorem dX11_least_13 : decode cX11_least 13 = .ok (.iload_n 3, 1) := by decide +kernel
theorem dX11_least_14 : decode cX11_least 14 = .ok (.invokestatic 213, 3) := by decide +kernel
theorem dX11_least_17 : decode cX11_least 17 = .ok (.ifCond .ne 6, 3) := by decide +kernel
theorem dX11_least_20 : decode cX11_least 20 = .ok (.bipush (-102), 2) := by decide +kernel
theorem dX11_least_22 : decode cX11_least 22 = .ok (.ireturn, 1) := by decide +kernel
theorem dX11_least_23 : decode cX11_least 23 = .ok (.iconst 1, 1) := by decide +kernel
theorem dX11_least_24 : decode cX11_least 24 = .ok (.istore 4, 2) := by decide +kernel
theorem dX11_least_26 : decode cX11_least 26 = .ok (.iload 4, 2) := by decide +kernel
theorem dX11_least_28 : decode cX11_least 28 = .ok (.bipush 9, 2) := by decide +kernel
theorem dX11_least_30 : decode cX11_least 30 = .ok (.if_icmp .ge 23, 3) := by decide +kernel
theorem dX11_least_33 : decode cX11_least 33 = .ok (.iload 4, 2) := by decide +kernel
theorem dX11_least_35 : decode cX11_least 35 = .ok (.iload_n 2, 1) := by decide +kernel
theorem dX11_least_36 : decode cX11_least 36 = .ok (.iload_n 3, 1) := by decide +kernel
theorem dX11_least_37 : decode cX11_least 37 = .ok (.invokestatic 216, 3) := by decide +kernel
theorem dX11_least_40 : decode cX11_least 40 = .ok (.iload_n 1, 1) := by decide +kernel
theorem dX11_least_41 : decode cX11_least 41 = .ok (.if_icmp .lt 6, 3) := by decide +kernel
theorem dX11_least_44 : decode cX11_least 44 = .ok (.iload 4, 2) := by decide +kernel
theorem dX11_least_46 : decode cX11_least 46 = .ok (.ireturn, 1) := by decide +kernel
theorem dX11_least_47 : decode cX11_least 47 = .ok (.iinc 4 1, 3) := by decide +kernel
theorem dX11_least_50 : decode cX11_least 50 = .ok (.goto (-24), 3) := by decide +kernel
theorem dX11_least_53 : decode cX11_least 53 = .ok (.iconst (-1), 1) := by decide +kernel
theorem dX11_least_54 : decode cX11_least 54 = .ok (.ireturn, 1) := by decide +kernel
theorem dX11_missed_0 : decode cX11_missed 0 = .ok (.iload_n 1, 1) := by decide +kernel
theorem dX11_missed_1 : decode cX11_missed 1 = .ok (.i2l, 1) := by decide +kernel
theorem dX11_missed_2 : decode cX11_missed 2 = .ok (.lconst 1, 1) := by decide +kernel
theorem dX11_missed_3 : decode cX11_missed 3 = .ok (.ldc2_w 195, 3) := by decide +kernel
theorem dX11_missed_6 : decode cX11_missed 6 = .ok (.invokestatic 70, 3) := by decide +kernel
theorem dX11_missed_9 : decode cX11_missed 9 = .ok (.ifCond .eq 22, 3) := by decide +kernel
theorem dX11_missed_12 : decode cX11_missed 12 = .ok (.iload_n 2, 1) := by decide +kernel
theorem dX11_missed_13 : decode cX11_missed 13 = .ok (.i2l, 1) := by decide +kernel
theorem dX11_missed_14 : decode cX11_missed 14 = .ok (.lconst 0, 1) := by decide +kernel
theorem dX11_missed_15 : decode cX11_missed 15 = .ok (.ldc2_w 195, 3) := by decide +kernel
theorem dX11_missed_18 : decode cX11_missed 18 = .ok (.invokestatic 70, 3) := by decide +kernel
theorem dX11_missed_21 : decode cX11_missed 21 = .ok (.ifCond .eq 10, 3) := by decide +kernel
theorem dX11_missed_24 : decode cX11_missed 24 = .ok (.iload_n 3, 1) := by decide +kernel
theorem dX11_missed_25 : decode cX11_missed 25 = .ok (.invokestatic 157, 3) := by decide +kernel
theorem dX11_missed_28 : decode cX11_missed 28 = .ok (.ifCond .ne 6, 3) := by decide +kernel
theorem dX11_missed_31 : decode cX11_missed 31 = .ok (.bipush (-102), 2) := by decide +kernel
theorem dX11_missed_33 : decode cX11_missed 33 = .ok (.ireturn, 1) := by decide +kernel
theorem dX11_missed_34 : decode cX11_missed 34 = .ok (.iconst 1, 1) := by decide +kernel
theorem dX11_missed_35 : decode cX11_missed 35 = .ok (.iload_n 1, 1) := by decide +kernel
theorem dX11_missed_36 : decode cX11_missed 36 = .ok (.ishl, 1) := by decide +kernel
theorem dX11_missed_37 : decode cX11_missed 37 = .ok (.istore 4, 2) := by decide +kernel
theorem dX11_missed_39 : decode cX11_missed 39 = .ok (.iconst 0, 1) := by decide +kernel
theorem dX11_missed_40 : decode cX11_missed 40 = .ok (.istore 5, 2) := by decide +kernel
theorem dX11_missed_42 : decode cX11_missed 42 = .ok (.iload 5, 2) := by decide +kernel
theorem dX11_missed_44 : decode cX11_missed 44 = .ok (.iload 4, 2) := by decide +kernel
theorem dX11_missed_46 : decode cX11_missed 46 = .ok (.if_icmp .ge 98, 3) := by decide +kernel
theorem dX11_missed_49 : decode cX11_missed 49 = .ok (.aload_n 0, 1) := by decide +kernel
theorem dX11_missed_50 : decode cX11_missed 50 = .ok (.getfield 34, 3) := by decide +kernel
theorem dX11_missed_53 : decode cX11_missed 53 = .ok (.iload 5, 2) := by decide +kernel
theorem dX11_missed_55 : decode cX11_missed 55 = .ok (.iconst 0, 1) := by decide +kernel
theorem dX11_missed_56 : decode cX11_missed 56 = .ok (.iastore, 1) := by decide +kernel
theorem dX11_missed_57 : decode cX11_missed 57 = .ok (.iconst 0, 1) := by decide +kernel
theorem dX11_missed_58 : decode cX11_missed 58 = .ok (.istore 6, 2) := by decide +kernel
theorem dX11_missed_60 : decode cX11_missed 60 = .ok (.iload 6, 2) := by decide +kernel
theorem dX11_missed_62 : decode cX11_missed 62 = .ok (.iload 4, 2) := by decide +kernel
theorem dX11_missed_64 : decode cX11_missed 64 = .ok (.if_icmp .ge 74, 3) := by decide +kernel
theorem dX11_missed_67 : decode cX11_missed 67 = .ok (.iload 5, 2) := by decide +kernel
theorem dX11_missed_69 : decode cX11_missed 69 = .ok (.iload 6, 2) := by decide +kernel
theorem dX11_missed_71 : decode cX11_missed 71 = .ok (.if_icmp .eq 35, 3) := by decide +kernel
theorem dX11_missed_74 : decode cX11_missed 74 = .ok (.iload 5, 2) := by decide +kernel
theorem dX11_missed_76 : decode cX11_missed 76 = .ok (.iload 6, 2) := by decide +kernel
theorem dX11_missed_78 : decode cX11_missed 78 = .ok (.iconst (-1), 1) := by decide +kernel
theorem dX11_missed_79 : decode cX11_missed 79 = .ok (.ixor, 1) := by decide +kernel
theorem dX11_missed_80 : decode cX11_missed 80 = .ok (.iand, 1) := by decide +kernel
theorem dX11_missed_81 : decode cX11_missed 81 = .ok (.invokestatic 209, 3) := by decide +kernel
theorem dX11_missed_84 : decode cX11_missed 84 = .ok (.iload_n 2, 1) := by decide +kernel
theorem dX11_missed_85 : decode cX11_missed 85 = .ok (.if_icmp .gt 21, 3) := by decide +kernel
theorem dX11_missed_88 : decode cX11_missed 88 = .ok (.iload 6, 2) := by decide +kernel
theorem dX11_missed_90 : decode cX11_missed 90 = .ok (.iload 5, 2) := by decide +kernel
theorem dX11_missed_92 : decode cX11_missed 92 = .ok (.iconst (-1), 1) := by decide +kernel
theorem dX11_missed_93 : decode cX11_missed 93 = .ok (.ixor, 1) := by decide +kernel
theorem dX11_missed_94 : decode cX11_missed 94 = .ok (.iand, 1) := by decide +kernel
theorem dX11_missed_95 : decode cX11_missed 95 = .ok (.invokestatic 209, 3) := by decide +kernel
theorem dX11_missed_98 : decode cX11_missed 98 = .ok (.iload_n 2, 1) := by decide +kernel
theorem dX11_missed_99 : decode cX11_missed 99 = .ok (.if_icmp .gt 7, 3) := by decide +kernel
theorem dX11_missed_102 : decode cX11_missed 102 = .ok (.iconst 1, 1) := by decide +kernel
theorem dX11_missed_103 : decode cX11_missed 103 = .ok (.goto 4, 3) := by decide +kernel
theorem dX11_missed_106 : decode cX11_missed 106 = .ok (.iconst 0, 1) := by decide +kernel
theorem dX11_missed_107 : decode cX11_missed 107 = .ok (.istore 7, 2) := by decide +kernel
theorem dX11_missed_109 : decode cX11_missed 109 = .ok (.aload_n 0, 1) := by decide +kernel
theorem dX11_missed_110 : decode cX11_missed 110 = .ok (.getfield 34, 3) := by decide +kernel
theorem dX11_missed_113 : decode cX11_missed 113 = .ok (.iload 5, 2) := by decide +kernel
theorem dX11_missed_115 : decode cX11_missed 115 = .ok (.dup2, 1) := by decide +kernel
theorem dX11_missed_116 : decode cX11_missed 116 = .ok (.iaload, 1) := by decide +kernel
theorem dX11_missed_117 : decode cX11_missed 117 = .ok (.iload 7, 2) := by decide +kernel
theorem dX11_missed_119 : decode cX11_missed 119 = .ok (.ifCond .eq 10, 3) := by decide +kernel
theorem dX11_missed_122 : decode cX11_missed 122 = .ok (.iconst 1, 1) := by decide +kernel
theorem dX11_missed_123 : decode cX11_missed 123 = .ok (.iload 6, 2) := by decide +kernel
theorem dX11_missed_125 : decode cX11_missed 125 = .ok (.ishl, 1) := by decide +kernel
theorem dX11_missed_126 : decode cX11_missed 126 = .ok (.goto 4, 3) := by decide +kernel
theorem dX11_missed_129 : decode cX11_missed 129 = .ok (.iconst 0, 1) := by decide +kernel
theorem dX11_missed_130 : decode cX11_missed 130 = .ok (.ior, 1) := by decide +kernel
theorem dX11_missed_131 : decode cX11_missed 131 = .ok (.iastore, 1) := by decide +kernel
theorem dX11_missed_132 : decode cX11_missed 132 = .ok (.iinc 6 1, 3) := by decide +kernel
theorem dX11_missed_135 : decode cX11_missed 135 = .ok (.goto (-75), 3) := by decide +kernel
theorem dX11_missed_138 : decode cX11_missed 138 = .ok (.iinc 5 1, 3) := by decide +kernel
theorem dX11_missed_141 : decode cX11_missed 141 = .ok (.goto (-99), 3) := by decide +kernel
theorem dX11_missed_144 : decode cX11_missed 144 = .ok (.iconst 0, 1) := by decide +kernel
theorem dX11_missed_145 : decode cX11_missed 145 = .ok (.istore 5, 2) := by decide +kernel
theorem dX11_missed_147 : decode cX11_missed 147 = .ok (.iconst 1, 1) := by decide +kernel
theorem dX11_missed_148 : decode cX11_missed 148 = .ok (.istore 6, 2) := by decide +kernel
theorem dX11_missed_150 : decode cX11_missed 150 = .ok (.iload 6, 2) := by decide +kernel
theorem dX11_missed_152 : decode cX11_missed 152 = .ok (.iconst 1, 1) := by decide +kernel
theorem dX11_missed_153 : decode cX11_missed 153 = .ok (.iload 4, 2) := by decide +kernel
theorem dX11_missed_155 : decode cX11_missed 155 = .ok (.ishl, 1) := by decide +kernel
theorem dX11_missed_156 : decode cX11_missed 156 = .ok (.if_icmp .ge 94, 3) := by decide +kernel
theorem dX11_missed_159 : decode cX11_missed 159 = .ok (.iload 6, 2) := by decide +kernel
theorem dX11_missed_161 : decode cX11_missed 161 = .ok (.invokestatic 209, 3) := by decide +kernel
theorem dX11_missed_164 : decode cX11_missed 164 = .ok (.iload 5, 2) := by decide +kernel
theorem dX11_missed_166 : decode cX11_missed 166 = .ok (.invokestatic 209, 3) := by decide +kernel
theorem dX11_missed_169 : decode cX11_missed 169 = .ok (.if_icmp .le 7, 3) := by decide +kernel
theorem dX11_missed_172 : decode cX11_missed 172 = .ok (.iconst 1, 1) := by decide +kernel
theorem dX11_missed_173 : decode cX11_missed 173 = .ok (.goto 4, 3) := by decide +kernel
theorem dX11_missed_176 : decode cX11_missed 176 = .ok (.iconst 0, 1) := by decide +kernel
theorem dX11_missed_177 : decode cX11_missed 177 = .ok (.istore 7, 2) := by decide +kernel
theorem dX11_missed_179 : decode cX11_missed 179 = .ok (.iconst 0, 1) := by decide +kernel
theorem dX11_missed_180 : decode cX11_missed 180 = .ok (.istore 8, 2) := by decide +kernel
theorem dX11_missed_182 : decode cX11_missed 182 = .ok (.iload 8, 2) := by decide +kernel
theorem dX11_missed_184 : decode cX11_missed 184 = .ok (.iload 4, 2) := by decide +kernel
theorem dX11_missed_186 : decode cX11_missed 186 = .ok (.if_icmp .ge 44, 3) := by decide +kernel
theorem dX11_missed_189 : decode cX11_missed 189 = .ok (.iload 7, 2) := by decide +kernel
theorem dX11_missed_191 : decode cX11_missed 191 = .ok (.ifCond .eq 39, 3) := by decide +kernel
theorem dX11_missed_194 : decode cX11_missed 194 = .ok (.iload 6, 2) := by decide +kernel
theorem dX11_missed_196 : decode cX11_missed 196 = .ok (.iload 8, 2) := by decide +kernel
theorem dX11_missed_198 : decode cX11_missed 198 = .ok (.ishr, 1) := by decide +kernel
theorem dX11_missed_199 : decode cX11_missed 199 = .ok (.iconst 1, 1) := by decide +kernel
theorem dX11_missed_200 : decode cX11_missed 200 = .ok (.iand, 1) := by decide +kernel
theorem dX11_missed_201 : decode cX11_missed 201 = .ok (.ifCond .eq 16, 3) := by decide +kernel
theorem dX11_missed_204 : decode cX11_missed 204 = .ok (.iload 6, 2) := by decide +kernel
theorem dX11_missed_206 : decode cX11_missed 206 = .ok (.aload_n 0, 1) := by decide +kernel
theorem dX11_missed_207 : decode cX11_missed 207 = .ok (.getfield 34, 3) := by decide +kernel
theorem dX11_missed_210 : decode cX11_missed 210 = .ok (.iload 8, 2) := by decide +kernel
theorem dX11_missed_212 : decode cX11_missed 212 = .ok (.iaload, 1) := by decide +kernel
theorem dX11_missed_213 : decode cX11_missed 213 = .ok (.iand, 1) := by decide +kernel
theorem dX11_missed_214 : decode cX11_missed 214 = .ok (.ifCond .ne 7, 3) := by decide +kernel
theorem dX11_missed_217 : decode cX11_missed 217 = .ok (.iconst 1, 1) := by decide +kernel
theorem dX11_missed_218 : decode cX11_missed 218 = .ok (.goto 4, 3) := by decide +kernel
theorem dX11_missed_221 : decode cX11_missed 221 = .ok (.iconst 0, 1) := by decide +kernel
theorem dX11_missed_222 : decode cX11_missed 222 = .ok (.istore 7, 2) := by decide +kernel
theorem dX11_missed_224 : decode cX11_missed 224 = .ok (.iinc 8 1, 3) := by decide +kernel
theorem dX11_missed_227 : decode cX11_missed 227 = .ok (.goto (-45), 3) := by decide +kernel
theorem dX11_missed_230 : decode cX11_missed 230 = .ok (.iload 7, 2) := by decide +kernel
theorem dX11_missed_232 : decode cX11_missed 232 = .ok (.ifCond .eq 8, 3) := by decide +kernel
theorem dX11_missed_235 : decode cX11_missed 235 = .ok (.iload 6, 2) := by decide +kernel
theorem dX11_missed_237 : decode cX11_missed 237 = .ok (.goto 5, 3) := by decide +kernel
theorem dX11_missed_240 : decode cX11_missed 240 = .ok (.iload 5, 2) := by decide +kernel
theorem dX11_missed_242 : decode cX11_missed 242 = .ok (.istore 5, 2) := by decide +kernel
theorem dX11_missed_244 : decode cX11_missed 244 = .ok (.iinc 6 1, 3) := by decide +kernel
theorem dX11_missed_247 : decode cX11_missed 247 = .ok (.goto (-97), 3) := by decide +kernel
theorem dX11_missed_250 : decode cX11_missed 250 = .ok (.iload_n 3, 1) := by decide +kernel
theorem dX11_missed_251 : decode cX11_missed 251 = .ok (.ifCond .ne 11, 3) := by decide +kernel
theorem dX11_missed_254 : decode cX11_missed 254 = .ok (.iload 5, 2) := by decide +kernel
theorem dX11_missed_256 : decode cX11_missed 256 = .ok (.invokestatic 209, 3) := by decide +kernel
theorem dX11_missed_259 : decode cX11_missed 259 = .ok (.goto 5, 3) := by decide +kernel
theorem dX11_missed_262 : decode cX11_missed 262 = .ok (.iload 5, 2) := by decide +kernel
theorem dX11_missed_264 : decode cX11_missed 264 = .ok (.ireturn, 1) := by decide +kernel
theorem dX11_book_0 : decode cX11_book 0 = .ok (.iload_n 1, 1) := by decide +kernel
theorem dX11_book_1 : decode cX11_book 1 = .ok (.i2l, 1) := by decide +kernel
theorem dX11_book_2 : decode cX11_book 2 = .ok (.lconst 0, 1) := by decide +kernel
theorem dX11_book_3 : decode cX11_book 3 = .ok (.ldc2_w 85, 3) := by decide +kernel
theorem dX11_book_6 : decode cX11_book 6 = .ok (.invokestatic 70, 3) := by decide +kernel
theorem dX11_book_9 : decode cX11_book 9 = .ok (.ifCond .ne 6, 3) := by decide +kernel
theorem dX11_book_12 : decode cX11_book 12 = .ok (.bipush (-102), 2) := by decide +kernel
theorem dX11_book_14 : decode cX11_book 14 = .ok (.ireturn, 1) := by decide +kernel
theorem dX11_book_15 : decode cX11_book 15 = .ok (.iconst 0, 1) := by decide +kernel
theorem dX11_book_16 : decode cX11_book 16 = .ok (.istore_n 2, 1) := by decide +kernel
theorem dX11_book_17 : decode cX11_book 17 = .ok (.iload_n 2, 1) := by decide +kernel
theorem dX11_book_18 : decode cX11_book 18 = .ok (.aload_n 0, 1) := by decide +kernel
theorem dX11_book_19 : decode cX11_book 19 = .ok (.getfield 222, 3) := by decide +kernel
theorem dX11_book_22 : decode cX11_book 22 = .ok (.if_icmp .ge 22, 3) := by decide +kernel
theorem dX11_book_25 : decode cX11_book 25 = .ok (.aload_n 0, 1) := by decide +kernel
theorem dX11_book_26 : decode cX11_book 26 = .ok (.getfield 37, 3) := by decide +kernel
theorem dX11_book_29 : decode cX11_book 29 = .ok (.iload_n 2, 1) := by decide +kernel
theorem dX11_book_30 : decode cX11_book 30 = .ok (.iaload, 1) := by decide +kernel
theorem dX11_book_31 : decode cX11_book 31 = .ok (.iload_n 1, 1) := by decide +kernel
theorem dX11_book_32 : decode cX11_book 32 = .ok (.if_icmp .ne 6, 3) := by decide +kernel
theorem dX11_book_35 : decode cX11_book 35 = .ok (.bipush (-103), 2) := by decide +kernel
theorem dX11_book_37 : decode cX11_book 37 = .ok (.ireturn, 1) := by decide +kernel
theorem dX11_book_38 : decode cX11_book 38 = .ok (.iinc 2 1, 3) := by decide +kernel
theorem dX11_book_41 : decode cX11_book 41 = .ok (.goto (-24), 3) := by decide +kernel
theorem dX11_book_44 : decode cX11_book 44 = .ok (.aload_n 0, 1) := by decide +kernel
theorem dX11_book_45 : decode cX11_book 45 = .ok (.getfield 222, 3) := by decide +kernel
theorem dX11_book_48 : decode cX11_book 48 = .ok (.iconst 4, 1) := by decide +kernel
theorem dX11_book_49 : decode cX11_book 49 = .ok (.if_icmp .ne 6, 3) := by decide +kernel
theorem dX11_book_52 : decode cX11_book 52 = .ok (.bipush (-104), 2) := by decide +kernel
theorem dX11_book_54 : decode cX11_book 54 = .ok (.ireturn, 1) := by decide +kernel
theorem dX11_book_55 : decode cX11_book 55 = .ok (.aload_n 0, 1) := by decide +kernel
theorem dX11_book_56 : decode cX11_book 56 = .ok (.getfield 37, 3) := by decide +kernel
theorem dX11_book_59 : decode cX11_book 59 = .ok (.aload_n 0, 1) := by decide +kernel
theorem dX11_book_60 : decode cX11_book 60 = .ok (.getfield 222, 3) := by decide +kernel
theorem dX11_book_63 : decode cX11_book 63 = .ok (.iload_n 1, 1) := by decide +kernel
theorem dX11_book_64 : decode cX11_book 64 = .ok (.iastore, 1) := by decide +kernel
theorem dX11_book_65 : decode cX11_book 65 = .ok (.aload_n 0, 1) := by decide +kernel
theorem dX11_book_66 : decode cX11_book 66 = .ok (.dup, 1) := by decide +kernel
theorem dX11_book_67 : decode cX11_book 67 = .ok (.getfield 222, 3) := by decide +kernel
theorem dX11_book_70 : decode cX11_book 70 = .ok (.iconst 1, 1) := by decide +kernel
theorem dX11_book_71 : decode cX11_book 71 = .ok (.iadd, 1) := by decide +kernel
theorem dX11_book_72 : decode cX11_book 72 = .ok (.putfield 222, 3) := by decide +kernel
theorem dX11_book_75 : decode cX11_book 75 = .ok (.aload_n 0, 1) := by decide +kernel
theorem dX11_book_76 : decode cX11_book 76 = .ok (.getfield 222, 3) := by decide +kernel
theorem dX11_book_79 : decode cX11_book 79 = .ok (.ireturn, 1) := by decide +kernel
theorem dX11_likely_0 : decode cX11_likely 0 = .ok (.iload_n 1, 1) := by decide +kernel
theorem dX11_likely_1 : decode cX11_likely 1 = .ok (.iload_n 0, 1) := by decide +kernel
theorem dX11_likely_2 : decode cX11_likely 2 = .ok (.iconst (-1), 1) := by decide +kernel
theorem dX11_likely_3 : decode cX11_likely 3 = .ok (.ixor, 1) := by decide +kernel
theorem dX11_likely_4 : decode cX11_likely 4 = .ok (.iand, 1) := by decide +kernel
theorem dX11_likely_5 : decode cX11_likely 5 = .ok (.ifCond .eq 5, 3) := by decide +kernel
theorem dX11_likely_8 : decode cX11_likely 8 = .ok (.lconst 0, 1) := by decide +kernel
theorem dX11_likely_9 : decode cX11_likely 9 = .ok (.lreturn, 1) := by decide +kernel
theorem dX11_likely_10 : decode cX11_likely 10 = .ok (.lconst 1, 1) := by decide +kernel
theorem dX11_likely_11 : decode cX11_likely 11 = .ok (.lstore_n 3, 1) := by decide +kernel
theorem dX11_likely_12 : decode cX11_likely 12 = .ok (.iconst 0, 1) := by decide +kernel
theorem dX11_likely_13 : decode cX11_likely 13 = .ok (.istore 5, 2) := by decide +kernel
theorem dX11_likely_15 : decode cX11_likely 15 = .ok (.iload 5, 2) := by decide +kernel
theorem dX11_likely_17 : decode cX11_likely 17 = .ok (.bipush 8, 2) := by decide +kernel
theorem dX11_likely_19 : decode cX11_likely 19 = .ok (.if_icmp .ge 48, 3) := by decide +kernel
theorem dX11_likely_22 : decode cX11_likely 22 = .ok (.lload_n 3, 1) := by decide +kernel
theorem dX11_likely_23 : decode cX11_likely 23 = .ok (.iload_n 1, 1) := by decide +kernel
theorem dX11_likely_24 : decode cX11_likely 24 = .ok (.iload 5, 2) := by decide +kernel
theorem dX11_likely_26 : decode cX11_likely 26 = .ok (.ishr, 1) := by decide +kernel
theorem dX11_likely_27 : decode cX11_likely 27 = .ok (.iconst 1, 1) := by decide +kernel
theorem dX11_likely_28 : decode cX11_likely 28 = .ok (.iand, 1) := by decide +kernel
theorem dX11_likely_29 : decode cX11_likely 29 = .ok (.iconst 1, 1) := by decide +kernel
theorem dX11_likely_30 : decode cX11_likely 30 = .ok (.if_icmp .ne 11, 3) := by decide +kernel
theorem dX11_likely_33 : decode cX11_likely 33 = .ok (.bipush 10, 2) := by decide +kernel
theorem dX11_likely_35 : decode cX11_likely 35 = .ok (.iload_n 2, 1) := by decide +kernel
theorem dX11_likely_36 : decode cX11_likely 36 = .ok (.isub, 1) := by decide +kernel
theorem dX11_likely_37 : decode cX11_likely 37 = .ok (.i2l, 1) := by decide +kernel
theorem dX11_likely_38 : decode cX11_likely 38 = .ok (.goto 21, 3) := by decide +kernel
theorem dX11_likely_41 : decode cX11_likely 41 = .ok (.iload_n 0, 1) := by decide +kernel
theorem dX11_likely_42 : decode cX11_likely 42 = .ok (.iload 5, 2) := by decide +kernel
theorem dX11_likely_44 : decode cX11_likely 44 = .ok (.ishr, 1) := by decide +kernel
theorem dX11_likely_45 : decode cX11_likely 45 = .ok (.iconst 1, 1) := by decide +kernel
theorem dX11_likely_46 : decode cX11_likely 46 = .ok (.iand, 1) := by decide +kernel
theorem dX11_likely_47 : decode cX11_likely 47 = .ok (.iconst 1, 1) := by decide +kernel
theorem dX11_likely_48 : decode cX11_likely 48 = .ok (.if_icmp .ne 8, 3) := by decide +kernel
theorem dX11_likely_51 : decode cX11_likely 51 = .ok (.iload_n 2, 1) := by decide +kernel
theorem dX11_likely_52 : decode cX11_likely 52 = .ok (.i2l, 1) := by decide +kernel
theorem dX11_likely_53 : decode cX11_likely 53 = .ok (.goto 6, 3) := by decide +kernel
theorem dX11_likely_56 : decode cX11_likely 56 = .ok (.ldc2_w 166, 3) := by decide +kernel
theorem dX11_likely_59 : decode cX11_likely 59 = .ok (.lmul, 1) := by decide +kernel
theorem dX11_likely_60 : decode cX11_likely 60 = .ok (.lstore_n 3, 1) := by decide +kernel
theorem dX11_likely_61 : decode cX11_likely 61 = .ok (.iinc 5 1, 3) := by decide +kernel
theorem dX11_likely_64 : decode cX11_likely 64 = .ok (.goto (-49), 3) := by decide +kernel
theorem dX11_likely_67 : decode cX11_likely 67 = .ok (.lload_n 3, 1) := by decide +kernel
theorem dX11_likely_68 : decode cX11_likely 68 = .ok (.lreturn, 1) := by decide +kernel
theorem dX11_read_0 : decode cX11_read 0 = .ok (.iload_n 1, 1) := by decide +kernel
theorem dX11_read_1 : decode cX11_read 1 = .ok (.i2l, 1) := by decide +kernel
theorem dX11_read_2 : decode cX11_read 2 = .ok (.lconst 0, 1) := by decide +kernel
theorem dX11_read_3 : decode cX11_read 3 = .ok (.aload_n 0, 1) := by decide +kernel
theorem dX11_read_4 : decode cX11_read 4 = .ok (.getfield 222, 3) := by decide +kernel
theorem dX11_read_7 : decode cX11_read 7 = .ok (.iconst 1, 1) := by decide +kernel
theorem dX11_read_8 : decode cX11_read 8 = .ok (.isub, 1) := by decide +kernel
theorem dX11_read_9 : decode cX11_read 9 = .ok (.i2l, 1) := by decide +kernel
theorem dX11_read_10 : decode cX11_read 10 = .ok (.invokestatic 70, 3) := by decide +kernel
theorem dX11_read_13 : decode cX11_read 13 = .ok (.ifCond .ne 7, 3) := by decide +kernel
theorem dX11_read_16 : decode cX11_read 16 = .ok (.ldc2_w 155, 3) := by decide +kernel
theorem dX11_read_19 : decode cX11_read 19 = .ok (.lreturn, 1) := by decide +kernel
theorem dX11_read_20 : decode cX11_read 20 = .ok (.iload_n 2, 1) := by decide +kernel
theorem dX11_read_21 : decode cX11_read 21 = .ok (.i2l, 1) := by decide +kernel
theorem dX11_read_22 : decode cX11_read 22 = .ok (.lconst 0, 1) := by decide +kernel
theorem dX11_read_23 : decode cX11_read 23 = .ok (.ldc2_w 85, 3) := by decide +kernel
theorem dX11_read_26 : decode cX11_read 26 = .ok (.invokestatic 70, 3) := by decide +kernel
theorem dX11_read_29 : decode cX11_read 29 = .ok (.ifCond .eq 23, 3) := by decide +kernel
theorem dX11_read_32 : decode cX11_read 32 = .ok (.iload_n 3, 1) := by decide +kernel
theorem dX11_read_33 : decode cX11_read 33 = .ok (.i2l, 1) := by decide +kernel
theorem dX11_read_34 : decode cX11_read 34 = .ok (.lconst 0, 1) := by decide +kernel
theorem dX11_read_35 : decode cX11_read 35 = .ok (.ldc2_w 74, 3) := by decide +kernel
theorem dX11_read_38 : decode cX11_read 38 = .ok (.invokestatic 70, 3) := by decide +kernel
theorem dX11_read_41 : decode cX11_read 41 = .ok (.ifCond .eq 11, 3) := by decide +kernel
theorem dX11_read_44 : decode cX11_read 44 = .ok (.iload 4, 2) := by decide +kernel
theorem dX11_read_46 : decode cX11_read 46 = .ok (.invokestatic 157, 3) := by decide +kernel
theorem dX11_read_49 : decode cX11_read 49 = .ok (.ifCond .ne 7, 3) := by decide +kernel
theorem dX11_read_52 : decode cX11_read 52 = .ok (.ldc2_w 160, 3) := by decide +kernel
theorem dX11_read_55 : decode cX11_read 55 = .ok (.lreturn, 1) := by decide +kernel
theorem dX11_read_56 : decode cX11_read 56 = .ok (.lconst 0, 1) := by decide +kernel
theorem dX11_read_57 : decode cX11_read 57 = .ok (.lstore 5, 2) := by decide +kernel
theorem dX11_read_59 : decode cX11_read 59 = .ok (.iconst 0, 1) := by decide +kernel
theorem dX11_read_60 : decode cX11_read 60 = .ok (.istore 7, 2) := by decide +kernel
theorem dX11_read_62 : decode cX11_read 62 = .ok (.iload 7, 2) := by decide +kernel
theorem dX11_read_64 : decode cX11_read 64 = .ok (.aload_n 0, 1) := by decide +kernel
theorem dX11_read_65 : decode cX11_read 65 = .ok (.getfield 222, 3) := by decide +kernel
theorem dX11_read_68 : decode cX11_read 68 = .ok (.if_icmp .ge 26, 3) := by decide +kernel
theorem dX11_read_71 : decode cX11_read 71 = .ok (.lload 5, 2) := by decide +kernel
theorem dX11_read_73 : decode cX11_read 73 = .ok (.aload_n 0, 1) := by decide +kernel
theorem dX11_read_74 : decode cX11_read 74 = .ok (.getfield 37, 3) := by decide +kernel
theorem dX11_read_77 : decode cX11_read 77 = .ok (.iload 7, 2) := by decide +kernel
theorem dX11_read_79 : decode cX11_read 79 = .ok (.iaload, 1) := by decide +kernel
theorem dX11_read_80 : decode cX11_read 80 = .ok (.iload_n 2, 1) := by decide +kernel
theorem dX11_read_81 : decode cX11_read 81 = .ok (.iload_n 3, 1) := by decide +kernel
theorem dX11_read_82 : decode cX11_read 82 = .ok (.invokestatic 225, 3) := by decide +kernel
theorem dX11_read_85 : decode cX11_read 85 = .ok (.ladd, 1) := by decide +kernel
theorem dX11_read_86 : decode cX11_read 86 = .ok (.lstore 5, 2) := by decide +kernel
theorem dX11_read_88 : decode cX11_read 88 = .ok (.iinc 7 1, 3) := by decide +kernel
theorem dX11_read_91 : decode cX11_read 91 = .ok (.goto (-29), 3) := by decide +kernel
theorem dX11_read_94 : decode cX11_read 94 = .ok (.lload 5, 2) := by decide +kernel
theorem dX11_read_96 : decode cX11_read 96 = .ok (.lconst 0, 1) := by decide +kernel
theorem dX11_read_97 : decode cX11_read 97 = .ok (.lcmp, 1) := by decide +kernel
theorem dX11_read_98 : decode cX11_read 98 = .ok (.ifCond .ne 9, 3) := by decide +kernel
theorem dX11_read_101 : decode cX11_read 101 = .ok (.ldc2_w 229, 3) := by decide +kernel
theorem dX11_read_104 : decode cX11_read 104 = .ok (.goto 21, 3) := by decide +kernel
theorem dX11_read_107 : decode cX11_read 107 = .ok (.aload_n 0, 1) := by decide +kernel
theorem dX11_read_108 : decode cX11_read 108 = .ok (.getfield 37, 3) := by decide +kernel
theorem dX11_read_111 : decode cX11_read 111 = .ok (.iload_n 1, 1) := by decide +kernel
theorem dX11_read_112 : decode cX11_read 112 = .ok (.iaload, 1) := by decide +kernel
theorem dX11_read_113 : decode cX11_read 113 = .ok (.iload_n 2, 1) := by decide +kernel
theorem dX11_read_114 : decode cX11_read 114 = .ok (.iload_n 3, 1) := by decide +kernel
theorem dX11_read_115 : decode cX11_read 115 = .ok (.invokestatic 225, 3) := by decide +kernel
theorem dX11_read_118 : decode cX11_read 118 = .ok (.lload 5, 2) := by decide +kernel
theorem dX11_read_120 : decode cX11_read 120 = .ok (.iload 4, 2) := by decide +kernel
theorem dX11_read_122 : decode cX11_read 122 = .ok (.invokestatic 162, 3) := by decide +kernel
theorem dX11_read_125 : decode cX11_read 125 = .ok (.lreturn, 1) := by decide +kernel
theorem dX11_crowd_0 : decode cX11_crowd 0 = .ok (.iload_n 1, 1) := by decide +kernel
theorem dX11_crowd_1 : decode cX11_crowd 1 = .ok (.iconst 2, 1) := by decide +kernel
theorem dX11_crowd_2 : decode cX11_crowd 2 = .ok (.if_icmp .eq 23, 3) := by decide +kernel
theorem dX11_crowd_5 : decode cX11_crowd 5 = .ok (.iload_n 1, 1) := by decide +kernel
theorem dX11_crowd_6 : decode cX11_crowd 6 = .ok (.iconst 4, 1) := by decide +kernel
theorem dX11_crowd_7 : decode cX11_crowd 7 = .ok (.if_icmp .eq 18, 3) := by decide +kernel
theorem dX11_crowd_10 : decode cX11_crowd 10 = .ok (.iload_n 1, 1) := by decide +kernel
theorem dX11_crowd_11 : decode cX11_crowd 11 = .ok (.bipush 6, 2) := by decide +kernel
theorem dX11_crowd_13 : decode cX11_crowd 13 = .ok (.if_icmp .eq 12, 3) := by decide +kernel
theorem dX11_crowd_16 : decode cX11_crowd 16 = .ok (.iload_n 1, 1) := by decide +kernel
theorem dX11_crowd_17 : decode cX11_crowd 17 = .ok (.bipush 8, 2) := by decide +kernel
theorem dX11_crowd_19 : decode cX11_crowd 19 = .ok (.if_icmp .eq 6, 3) := by decide +kernel
theorem dX11_crowd_22 : decode cX11_crowd 22 = .ok (.bipush (-102), 2) := by decide +kernel
theorem dX11_crowd_24 : decode cX11_crowd 24 = .ok (.ireturn, 1) := by decide +kernel
theorem dX11_crowd_25 : decode cX11_crowd 25 = .ok (.aload_n 0, 1) := by decide +kernel
theorem dX11_crowd_26 : decode cX11_crowd 26 = .ok (.getfield 65, 3) := by decide +kernel
theorem dX11_crowd_29 : decode cX11_crowd 29 = .ok (.istore_n 2, 1) := by decide +kernel
theorem dX11_crowd_30 : decode cX11_crowd 30 = .ok (.aload_n 0, 1) := by decide +kernel
theorem dX11_crowd_31 : decode cX11_crowd 31 = .ok (.iload_n 1, 1) := by decide +kernel
theorem dX11_crowd_32 : decode cX11_crowd 32 = .ok (.putfield 65, 3) := by decide +kernel
theorem dX11_crowd_35 : decode cX11_crowd 35 = .ok (.aload_n 0, 1) := by decide +kernel
theorem dX11_crowd_36 : decode cX11_crowd 36 = .ok (.iconst 0, 1) := by decide +kernel
theorem dX11_crowd_37 : decode cX11_crowd 37 = .ok (.putfield 231, 3) := by decide +kernel
theorem dX11_crowd_40 : decode cX11_crowd 40 = .ok (.aload_n 0, 1) := by decide +kernel
theorem dX11_crowd_41 : decode cX11_crowd 41 = .ok (.dup, 1) := by decide +kernel
theorem dX11_crowd_42 : decode cX11_crowd 42 = .ok (.getfield 234, 3) := by decide +kernel
theorem dX11_crowd_45 : decode cX11_crowd 45 = .ok (.iconst 1, 1) := by decide +kernel
theorem dX11_crowd_46 : decode cX11_crowd 46 = .ok (.iadd, 1) := by decide +kernel
theorem dX11_crowd_47 : decode cX11_crowd 47 = .ok (.putfield 234, 3) := by decide +kernel
theorem dX11_crowd_50 : decode cX11_crowd 50 = .ok (.iload_n 2, 1) := by decide +kernel
theorem dX11_crowd_51 : decode cX11_crowd 51 = .ok (.ireturn, 1) := by decide +kernel
theorem dX11_wince_0 : decode cX11_wince 0 = .ok (.iload_n 1, 1) := by decide +kernel
theorem dX11_wince_1 : decode cX11_wince 1 = .ok (.i2l, 1) := by decide +kernel
theorem dX11_wince_2 : decode cX11_wince 2 = .ok (.lconst 0, 1) := by decide +kernel
theorem dX11_wince_3 : decode cX11_wince 3 = .ok (.aload_n 0, 1) := by decide +kernel
theorem dX11_wince_4 : decode cX11_wince 4 = .ok (.getfield 65, 3) := by decide +kernel
theorem dX11_wince_7 : decode cX11_wince 7 = .ok (.iconst 1, 1) := by decide +kernel
theorem dX11_wince_8 : decode cX11_wince 8 = .ok (.isub, 1) := by decide +kernel
theorem dX11_wince_9 : decode cX11_wince 9 = .ok (.i2l, 1) := by decide +kernel
theorem dX11_wince_10 : decode cX11_wince 10 = .ok (.invokestatic 70, 3) := by decide +kernel
theorem dX11_wince_13 : decode cX11_wince 13 = .ok (.ifCond .ne 6, 3) := by decide +kernel
theorem dX11_wince_16 : decode cX11_wince 16 = .ok (.bipush (-101), 2) := by decide +kernel
theorem dX11_wince_18 : decode cX11_wince 18 = .ok (.ireturn, 1) := by decide +kernel
theorem dX11_wince_19 : decode cX11_wince 19 = .ok (.iload_n 2, 1) := by decide +kernel
theorem dX11_wince_20 : decode cX11_wince 20 = .ok (.i2l, 1) := by decide +kernel
theorem dX11_wince_21 : decode cX11_wince 21 = .ok (.lconst 0, 1) := by decide +kernel
theorem dX11_wince_22 : decode cX11_wince 22 = .ok (.iconst 1, 1) := by decide +kernel
theorem dX11_wince_23 : decode cX11_wince 23 = .ok (.aload_n 0, 1) := by decide +kernel
theorem dX11_wince_24 : decode cX11_wince 24 = .ok (.getfield 65, 3) := by decide +kernel
theorem dX11_wince_27 : decode cX11_wince 27 = .ok (.ishl, 1) := by decide +kernel
theorem dX11_wince_28 : decode cX11_wince 28 = .ok (.iconst 1, 1) := by decide +kernel
theorem dX11_wince_29 : decode cX11_wince 29 = .ok (.isub, 1) := by decide +kernel
theorem dX11_wince_30 : decode cX11_wince 30 = .ok (.i2l, 1) := by decide +kernel
theorem dX11_wince_31 : decode cX11_wince 31 = .ok (.invokestatic 70, 3) := by decide +kernel
theorem dX11_wince_34 : decode cX11_wince 34 = .ok (.ifCond .ne 6, 3) := by decide +kernel
theorem dX11_wince_37 : decode cX11_wince 37 = .ok (.bipush (-102), 2) := by decide +kernel
theorem dX11_wince_39 : decode cX11_wince 39 = .ok (.ireturn, 1) := by decide +kernel
theorem dX11_wince_40 : decode cX11_wince 40 = .ok (.aload_n 0, 1) := by decide +kernel
theorem dX11_wince_41 : decode cX11_wince 41 = .ok (.getfield 231, 3) := by decide +kernel
theorem dX11_wince_44 : decode cX11_wince 44 = .ok (.bipush 8, 2) := by decide +kernel
theorem dX11_wince_46 : decode cX11_wince 46 = .ok (.if_icmp .ne 6, 3) := by decide +kernel
theorem dX11_wince_49 : decode cX11_wince 49 = .ok (.bipush (-104), 2) := by decide +kernel
theorem dX11_wince_51 : decode cX11_wince 51 = .ok (.ireturn, 1) := by decide +kernel
theorem dX11_wince_52 : decode cX11_wince 52 = .ok (.aload_n 0, 1) := by decide +kernel
theorem dX11_wince_53 : decode cX11_wince 53 = .ok (.getfield 40, 3) := by decide +kernel
theorem dX11_wince_56 : decode cX11_wince 56 = .ok (.iconst 2, 1) := by decide +kernel
theorem dX11_wince_57 : decode cX11_wince 57 = .ok (.aload_n 0, 1) := by decide +kernel
theorem dX11_wince_58 : decode cX11_wince 58 = .ok (.getfield 231, 3) := by decide +kernel
theorem dX11_wince_61 : decode cX11_wince 61 = .ok (.imul, 1) := by decide +kernel
theorem dX11_wince_62 : decode cX11_wince 62 = .ok (.iload_n 1, 1) := by decide +kernel
theorem dX11_wince_63 : decode cX11_wince 63 = .ok (.iastore, 1) := by decide +kernel
theorem dX11_wince_64 : decode cX11_wince 64 = .ok (.aload_n 0, 1) := by decide +kernel
theorem dX11_wince_65 : decode cX11_wince 65 = .ok (.getfield 40, 3) := by decide +kernel
theorem dX11_wince_68 : decode cX11_wince 68 = .ok (.iconst 2, 1) := by decide +kernel
theorem dX11_wince_69 : decode cX11_wince 69 = .ok (.aload_n 0, 1) := by decide +kernel
theorem dX11_wince_70 : decode cX11_wince 70 = .ok (.getfield 231, 3) := by decide +kernel
theorem dX11_wince_73 : decode cX11_wince 73 = .ok (.imul, 1) := by decide +kernel
theorem dX11_wince_74 : decode cX11_wince 74 = .ok (.iconst 1, 1) := by decide +kernel
theorem dX11_wince_75 : decode cX11_wince 75 = .ok (.iadd, 1) := by decide +kernel
theorem dX11_wince_76 : decode cX11_wince 76 = .ok (.iload_n 2, 1) := by decide +kernel
theorem dX11_wince_77 : decode cX11_wince 77 = .ok (.iastore, 1) := by decide +kernel
theorem dX11_wince_78 : decode cX11_wince 78 = .ok (.aload_n 0, 1) := by decide +kernel
theorem dX11_wince_79 : decode cX11_wince 79 = .ok (.dup, 1) := by decide +kernel
theorem dX11_wince_80 : decode cX11_wince 80 = .ok (.getfield 231, 3) := by decide +kernel
theorem dX11_wince_83 : decode cX11_wince 83 = .ok (.iconst 1, 1) := by decide +kernel
theorem dX11_wince_84 : decode cX11_wince 84 = .ok (.iadd, 1) := by decide +kernel
theorem dX11_wince_85 : decode cX11_wince 85 = .ok (.putfield 231, 3) := by decide +kernel
theorem dX11_wince_88 : decode cX11_wince 88 = .ok (.aload_n 0, 1) := by decide +kernel
theorem dX11_wince_89 : decode cX11_wince 89 = .ok (.getfield 231, 3) := by decide +kernel
theorem dX11_wince_92 : decode cX11_wince 92 = .ok (.ireturn, 1) := by decide +kernel
theorem dX11_layPairing_0 : decode cX11_layPairing 0 = .ok (.iload_n 1, 1) := by decide +kernel
theorem dX11_layPairing_1 : decode cX11_layPairing 1 = .ok (.istore_n 2, 1) := by decide +kernel
theorem dX11_layPairing_2 : decode cX11_layPairing 2 = .ok (.iconst 1, 1) := by decide +kernel
theorem dX11_layPairing_3 : decode cX11_layPairing 3 = .ok (.aload_n 0, 1) := by decide +kernel
theorem dX11_layPairing_4 : decode cX11_layPairing 4 = .ok (.getfield 65, 3) := by decide +kernel
theorem dX11_layPairing_7 : decode cX11_layPairing 7 = .ok (.ishl, 1) := by decide +kernel
theorem dX11_layPairing_8 : decode cX11_layPairing 8 = .ok (.iconst 1, 1) := by decide +kernel
theorem dX11_layPairing_9 : decode cX11_layPairing 9 = .ok (.isub, 1) := by decide +kernel
theorem dX11_layPairing_10 : decode cX11_layPairing 10 = .ok (.istore_n 3, 1) := by decide +kernel
theorem dX11_layPairing_11 : decode cX11_layPairing 11 = .ok (.aload_n 0, 1) := by decide +kernel
theorem dX11_layPairing_12 : decode cX11_layPairing 12 = .ok (.getfield 65, 3) := by decide +kernel
theorem dX11_layPairing_15 : decode cX11_layPairing 15 = .ok (.iconst 1, 1) := by decide +kernel
theorem dX11_layPairing_16 : decode cX11_layPairing 16 = .ok (.isub, 1) := by decide +kernel
theorem dX11_layPairing_17 : decode cX11_layPairing 17 = .ok (.istore 4, 2) := by decide +kernel
theorem dX11_layPairing_19 : decode cX11_layPairing 19 = .ok (.iload 4, 2) := by decide +kernel
theorem dX11_layPairing_21 : decode cX11_layPairing 21 = .ok (.ifCond .le 107, 3) := by decide +kernel
theorem dX11_layPairing_24 : decode cX11_layPairing 24 = .ok (.iconst 0, 1) := by decide +kernel
theorem dX11_layPairing_25 : decode cX11_layPairing 25 = .ok (.istore 5, 2) := by decide +kernel
theorem dX11_layPairing_27 : decode cX11_layPairing 27 = .ok (.iload_n 3, 1) := by decide +kernel
theorem dX11_layPairing_28 : decode cX11_layPairing 28 = .ok (.iload 5, 2) := by decide +kernel
theorem dX11_layPairing_30 : decode cX11_layPairing 30 = .ok (.ishr, 1) := by decide +kernel
theorem dX11_layPairing_31 : decode cX11_layPairing 31 = .ok (.iconst 1, 1) := by decide +kernel
theorem dX11_layPairing_32 : decode cX11_layPairing 32 = .ok (.iand, 1) := by decide +kernel
theorem dX11_layPairing_33 : decode cX11_layPairing 33 = .ok (.ifCond .ne 9, 3) := by decide +kernel
theorem dX11_layPairing_36 : decode cX11_layPairing 36 = .ok (.iinc 5 1, 3) := by decide +kernel
theorem dX11_layPairing_39 : decode cX11_layPairing 39 = .ok (.goto (-12), 3) := by decide +kernel
theorem dX11_layPairing_42 : decode cX11_layPairing 42 = .ok (.iload_n 3, 1) := by decide +kernel
theorem dX11_layPairing_43 : decode cX11_layPairing 43 = .ok (.iconst 1, 1) := by decide +kernel
theorem dX11_layPairing_44 : decode cX11_layPairing 44 = .ok (.iload 5, 2) := by decide +kernel
theorem dX11_layPairing_46 : decode cX11_layPairing 46 = .ok (.ishl, 1) := by decide +kernel
theorem dX11_layPairing_47 : decode cX11_layPairing 47 = .ok (.isub, 1) := by decide +kernel
theorem dX11_layPairing_48 : decode cX11_layPairing 48 = .ok (.istore_n 3, 1) := by decide +kernel
theorem dX11_layPairing_49 : decode cX11_layPairing 49 = .ok (.iload_n 2, 1) := by decide +kernel
theorem dX11_layPairing_50 : decode cX11_layPairing 50 = .ok (.iload 4, 2) := by decide +kernel
theorem dX11_layPairing_52 : decode cX11_layPairing 52 = .ok (.irem, 1) := by decide +kernel
theorem dX11_layPairing_53 : decode cX11_layPairing 53 = .ok (.istore 6, 2) := by decide +kernel
theorem dX11_layPairing_55 : decode cX11_layPairing 55 = .ok (.iload_n 2, 1) := by decide +kernel
theorem dX11_layPairing_56 : decode cX11_layPairing 56 = .ok (.iload 4, 2) := by decide +kernel
theorem dX11_layPairing_58 : decode cX11_layPairing 58 = .ok (.idiv, 1) := by decide +kernel
theorem dX11_layPairing_59 : decode cX11_layPairing 59 = .ok (.istore_n 2, 1) := by decide +kernel
theorem dX11_layPairing_60 : decode cX11_layPairing 60 = .ok (.iload 5, 2) := by decide +kernel
theorem dX11_layPairing_62 : decode cX11_layPairing 62 = .ok (.iconst 1, 1) := by decide +kernel
theorem dX11_layPairing_63 : decode cX11_layPairing 63 = .ok (.iadd, 1) := by decide +kernel
theorem dX11_layPairing_64 : decode cX11_layPairing 64 = .ok (.istore 7, 2) := by decide +kernel
theorem dX11_layPairing_66 : decode cX11_layPairing 66 = .ok (.iload_n 3, 1) := by decide +kernel
theorem dX11_layPairing_67 : decode cX11_layPairing 67 = .ok (.iload 7, 2) := by decide +kernel
theorem dX11_layPairing_69 : decode cX11_layPairing 69 = .ok (.ishr, 1) := by decide +kernel
theorem dX11_layPairing_70 : decode cX11_layPairing 70 = .ok (.iconst 1, 1) := by decide +kernel
theorem dX11_layPairing_71 : decode cX11_layPairing 71 = .ok (.iand, 1) := by decide +kernel
theorem dX11_layPairing_72 : decode cX11_layPairing 72 = .ok (.ifCond .eq 8, 3) := by decide +kernel
theorem dX11_layPairing_75 : decode cX11_layPairing 75 = .ok (.iload 6, 2) := by decide +kernel
theorem dX11_layPairing_77 : decode cX11_layPairing 77 = .ok (.ifCond .le 20, 3) := by decide +kernel
theorem dX11_layPairing_80 : decode cX11_layPairing 80 = .ok (.iload 6, 2) := by decide +kernel
theorem dX11_layPairing_82 : decode cX11_layPairing 82 = .ok (.iload_n 3, 1) := by decide +kernel
theorem dX11_layPairing_83 : decode cX11_layPairing 83 = .ok (.iload 7, 2) := by decide +kernel
theorem dX11_layPairing_85 : decode cX11_layPairing 85 = .ok (.ishr, 1) := by decide +kernel
theorem dX11_layPairing_86 : decode cX11_layPairing 86 = .ok (.iconst 1, 1) := by decide +kernel
theorem dX11_layPairing_87 : decode cX11_layPairing 87 = .ok (.iand, 1) := by decide +kernel
theorem dX11_layPairing_88 : decode cX11_layPairing 88 = .ok (.isub, 1) := by decide +kernel
theorem dX11_layPairing_89 : decode cX11_layPairing 89 = .ok (.istore 6, 2) := by decide +kernel
theorem dX11_layPairing_91 : decode cX11_layPairing 91 = .ok (.iinc 7 1, 3) := by decide +kernel
theorem dX11_layPairing_94 : decode cX11_layPairing 94 = .ok (.goto (-28), 3) := by decide +kernel
theorem dX11_layPairing_97 : decode cX11_layPairing 97 = .ok (.iload_n 3, 1) := by decide +kernel
theorem dX11_layPairing_98 : decode cX11_layPairing 98 = .ok (.iconst 1, 1) := by decide +kernel
theorem dX11_layPairing_99 : decode cX11_layPairing 99 = .ok (.iload 7, 2) := by decide +kernel
theorem dX11_layPairing_101 : decode cX11_layPairing 101 = .ok (.ishl, 1) := by decide +kernel
theorem dX11_layPairing_102 : decode cX11_layPairing 102 = .ok (.isub, 1) := by decide +kernel
theorem dX11_layPairing_103 : decode cX11_layPairing 103 = .ok (.istore_n 3, 1) := by decide +kernel
theorem dX11_layPairing_104 : decode cX11_layPairing 104 = .ok (.aload_n 0, 1) := by decide +kernel
theorem dX11_layPairing_105 : decode cX11_layPairing 105 = .ok (.getfield 43, 3) := by decide +kernel
theorem dX11_layPairing_108 : decode cX11_layPairing 108 = .ok (.iload 5, 2) := by decide +kernel
theorem dX11_layPairing_110 : decode cX11_layPairing 110 = .ok (.iload 7, 2) := by decide +kernel
theorem dX11_layPairing_112 : decode cX11_layPairing 112 = .ok (.iastore, 1) := by decide +kernel
theorem dX11_layPairing_113 : decode cX11_layPairing 113 = .ok (.aload_n 0, 1) := by decide +kernel
theorem dX11_layPairing_114 : decode cX11_layPairing 114 = .ok (.getfield 43, 3) := by decide +kernel
theorem dX11_layPairing_117 : decode cX11_layPairing 117 = .ok (.iload 7, 2) := by decide +kernel
theorem dX11_layPairing_119 : decode cX11_layPairing 119 = .ok (.iload 5, 2) := by decide +kernel
theorem dX11_layPairing_121 : decode cX11_layPairing 121 = .ok (.iastore, 1) := by decide +kernel
theorem dX11_layPairing_122 : decode cX11_layPairing 122 = .ok (.iinc 4 (-2), 3) := by decide +kernel
theorem dX11_layPairing_125 : decode cX11_layPairing 125 = .ok (.goto (-106), 3) := by decide +kernel
theorem dX11_layPairing_128 : decode cX11_layPairing 128 = .ok (.return_, 1) := by decide +kernel
theorem dX11_isSo_0 : decode cX11_isSo 0 = .ok (.iconst 1, 1) := by decide +kernel
theorem dX11_isSo_1 : decode cX11_isSo 1 = .ok (.istore_n 1, 1) := by decide +kernel
theorem dX11_isSo_2 : decode cX11_isSo 2 = .ok (.iconst 0, 1) := by decide +kernel
theorem dX11_isSo_3 : decode cX11_isSo 3 = .ok (.istore_n 2, 1) := by decide +kernel
theorem dX11_isSo_4 : decode cX11_isSo 4 = .ok (.iload_n 2, 1) := by decide +kernel
theorem dX11_isSo_5 : decode cX11_isSo 5 = .ok (.aload_n 0, 1) := by decide +kernel
theorem dX11_isSo_6 : decode cX11_isSo 6 = .ok (.getfield 231, 3) := by decide +kernel
theorem dX11_isSo_9 : decode cX11_isSo 9 = .ok (.if_icmp .ge 49, 3) := by decide +kernel
theorem dX11_isSo_12 : decode cX11_isSo 12 = .ok (.iload_n 1, 1) := by decide +kernel
theorem dX11_isSo_13 : decode cX11_isSo 13 = .ok (.ifCond .eq 37, 3) := by decide +kernel
theorem dX11_isSo_16 : decode cX11_isSo 16 = .ok (.aload_n 0, 1) := by decide +kernel
theorem dX11_isSo_17 : decode cX11_isSo 17 = .ok (.getfield 40, 3) := by decide +kernel
theorem dX11_isSo_20 : decode cX11_isSo 20 = .ok (.iconst 2, 1) := by decide +kernel
theorem dX11_isSo_21 : decode cX11_isSo 21 = .ok (.iload_n 2, 1) := by decide +kernel
theorem dX11_isSo_22 : decode cX11_isSo 22 = .ok (.imul, 1) := by decide +kernel
theorem dX11_isSo_23 : decode cX11_isSo 23 = .ok (.iconst 1, 1) := by decide +kernel
theorem dX11_isSo_24 : decode cX11_isSo 24 = .ok (.iadd, 1) := by decide +kernel
theorem dX11_isSo_25 : decode cX11_isSo 25 = .ok (.iaload, 1) := by decide +kernel
theorem dX11_isSo_26 : decode cX11_isSo 26 = .ok (.aload_n 0, 1) := by decide +kernel
theorem dX11_isSo_27 : decode cX11_isSo 27 = .ok (.getfield 43, 3) := by decide +kernel
theorem dX11_isSo_30 : decode cX11_isSo 30 = .ok (.aload_n 0, 1) := by decide +kernel
theorem dX11_isSo_31 : decode cX11_isSo 31 = .ok (.getfield 40, 3) := by decide +kernel
theorem dX11_isSo_34 : decode cX11_isSo 34 = .ok (.iconst 2, 1) := by decide +kernel
theorem dX11_isSo_35 : decode cX11_isSo 35 = .ok (.iload_n 2, 1) := by decide +kernel
theorem dX11_isSo_36 : decode cX11_isSo 36 = .ok (.imul, 1) := by decide +kernel
theorem dX11_isSo_37 : decode cX11_isSo 37 = .ok (.iaload, 1) := by decide +kernel
theorem dX11_isSo_38 : decode cX11_isSo 38 = .ok (.iaload, 1) := by decide +kernel
theorem dX11_isSo_39 : decode cX11_isSo 39 = .ok (.ishr, 1) := by decide +kernel
theorem dX11_isSo_40 : decode cX11_isSo 40 = .ok (.iconst 1, 1) := by decide +kernel
theorem dX11_isSo_41 : decode cX11_isSo 41 = .ok (.iand, 1) := by decide +kernel
theorem dX11_isSo_42 : decode cX11_isSo 42 = .ok (.iconst 1, 1) := by decide +kernel
theorem dX11_isSo_43 : decode cX11_isSo 43 = .ok (.if_icmp .ne 7, 3) := by decide +kernel
theorem dX11_isSo_46 : decode cX11_isSo 46 = .ok (.iconst 1, 1) := by decide +kernel
theorem dX11_isSo_47 : decode cX11_isSo 47 = .ok (.goto 4, 3) := by decide +kernel
theorem dX11_isSo_50 : decode cX11_isSo 50 = .ok (.iconst 0, 1) := by decide +kernel
theorem dX11_isSo_51 : decode cX11_isSo 51 = .ok (.istore_n 1, 1) := by decide +kernel
theorem dX11_isSo_52 : decode cX11_isSo 52 = .ok (.iinc 2 1, 3) := by decide +kernel
theorem dX11_isSo_55 : decode cX11_isSo 55 = .ok (.goto (-51), 3) := by decide +kernel
theorem dX11_isSo_58 : decode cX11_isSo 58 = .ok (.iload_n 1, 1) := by decide +kernel
theorem dX11_isSo_59 : decode cX11_isSo 59 = .ok (.ireturn, 1) := by decide +kernel
theorem dX11_pairingsOf_0 : decode cX11_pairingsOf 0 = .ok (.aload_n 0, 1) := by decide +kernel
theorem dX11_pairingsOf_1 : decode cX11_pairingsOf 1 = .ok (.getfield 65, 3) := by decide +kernel
theorem dX11_pairingsOf_4 : decode cX11_pairingsOf 4 = .ok (.iconst 2, 1) := by decide +kernel
end
section
theorem dX11_pairingsOf_5 : decode cX11_pairingsOf 5 = .ok (.if_icmp .ne 7, 3) := by decide +kernel
theorem dX11_pairingsOf_8 : decode cX11_pairingsOf 8 = .ok (.iconst 1, 1) := by decide +kernel
theorem dX11_pairingsOf_9 : decode cX11_pairingsOf 9 = .ok (.goto 31, 3) := by decide +kernel
theorem dX11_pairingsOf_12 : decode cX11_pairingsOf 12 = .ok (.aload_n 0, 1) := by decide +kernel
theorem dX11_pairingsOf_13 : decode cX11_pairingsOf 13 = .ok (.getfield 65, 3) := by decide +kernel
theorem dX11_pairingsOf_16 : decode cX11_pairingsOf 16 = .ok (.iconst 4, 1) := by decide +kernel
theorem dX11_pairingsOf_17 : decode cX11_pairingsOf 17 = .ok (.if_icmp .ne 7, 3) := by decide +kernel
theorem dX11_pairingsOf_20 : decode cX11_pairingsOf 20 = .ok (.iconst 3, 1) := by decide +kernel
theorem dX11_pairingsOf_21 : decode cX11_pairingsOf 21 = .ok (.goto 19, 3) := by decide +kernel
theorem dX11_pairingsOf_24 : decode cX11_pairingsOf 24 = .ok (.aload_n 0, 1) := by decide +kernel
theorem dX11_pairingsOf_25 : decode cX11_pairingsOf 25 = .ok (.getfield 65, 3) := by decide +kernel
theorem dX11_pairingsOf_28 : decode cX11_pairingsOf 28 = .ok (.bipush 6, 2) := by decide +kernel
theorem dX11_pairingsOf_30 : decode cX11_pairingsOf 30 = .ok (.if_icmp .ne 8, 3) := by decide +kernel
theorem dX11_pairingsOf_33 : decode cX11_pairingsOf 33 = .ok (.bipush 15, 2) := by decide +kernel
theorem dX11_pairingsOf_35 : decode cX11_pairingsOf 35 = .ok (.goto 5, 3) := by decide +kernel
theorem dX11_pairingsOf_38 : decode cX11_pairingsOf 38 = .ok (.bipush 105, 2) := by decide +kernel
theorem dX11_pairingsOf_40 : decode cX11_pairingsOf 40 = .ok (.istore_n 1, 1) := by decide +kernel
theorem dX11_pairingsOf_41 : decode cX11_pairingsOf 41 = .ok (.iconst 0, 1) := by decide +kernel
theorem dX11_pairingsOf_42 : decode cX11_pairingsOf 42 = .ok (.istore_n 2, 1) := by decide +kernel
theorem dX11_pairingsOf_43 : decode cX11_pairingsOf 43 = .ok (.iload_n 2, 1) := by decide +kernel
theorem dX11_pairingsOf_44 : decode cX11_pairingsOf 44 = .ok (.bipush 8, 2) := by decide +kernel
theorem dX11_pairingsOf_46 : decode cX11_pairingsOf 46 = .ok (.if_icmp .ge 16, 3) := by decide +kernel
theorem dX11_pairingsOf_49 : decode cX11_pairingsOf 49 = .ok (.aload_n 0, 1) := by decide +kernel
theorem dX11_pairingsOf_50 : decode cX11_pairingsOf 50 = .ok (.getfield 46, 3) := by decide +kernel
theorem dX11_pairingsOf_53 : decode cX11_pairingsOf 53 = .ok (.iload_n 2, 1) := by decide +kernel
theorem dX11_pairingsOf_54 : decode cX11_pairingsOf 54 = .ok (.iconst 0, 1) := by decide +kernel
theorem dX11_pairingsOf_55 : decode cX11_pairingsOf 55 = .ok (.iastore, 1) := by decide +kernel
theorem dX11_pairingsOf_56 : decode cX11_pairingsOf 56 = .ok (.iinc 2 1, 3) := by decide +kernel
theorem dX11_pairingsOf_59 : decode cX11_pairingsOf 59 = .ok (.goto (-16), 3) := by decide +kernel
theorem dX11_pairingsOf_62 : decode cX11_pairingsOf 62 = .ok (.iconst 0, 1) := by decide +kernel
theorem dX11_pairingsOf_63 : decode cX11_pairingsOf 63 = .ok (.istore_n 2, 1) := by decide +kernel
theorem dX11_pairingsOf_64 : decode cX11_pairingsOf 64 = .ok (.iconst 0, 1) := by decide +kernel
theorem dX11_pairingsOf_65 : decode cX11_pairingsOf 65 = .ok (.istore_n 3, 1) := by decide +kernel
theorem dX11_pairingsOf_66 : decode cX11_pairingsOf 66 = .ok (.iload_n 3, 1) := by decide +kernel
theorem dX11_pairingsOf_67 : decode cX11_pairingsOf 67 = .ok (.iload_n 1, 1) := by decide +kernel
theorem dX11_pairingsOf_68 : decode cX11_pairingsOf 68 = .ok (.if_icmp .ge 61, 3) := by decide +kernel
theorem dX11_pairingsOf_71 : decode cX11_pairingsOf 71 = .ok (.aload_n 0, 1) := by decide +kernel
theorem dX11_pairingsOf_72 : decode cX11_pairingsOf 72 = .ok (.iload_n 3, 1) := by decide +kernel
theorem dX11_pairingsOf_73 : decode cX11_pairingsOf 73 = .ok (.invokevirtual 237, 3) := by decide +kernel
theorem dX11_pairingsOf_76 : decode cX11_pairingsOf 76 = .ok (.aload_n 0, 1) := by decide +kernel
theorem dX11_pairingsOf_77 : decode cX11_pairingsOf 77 = .ok (.invokevirtual 240, 3) := by decide +kernel
theorem dX11_pairingsOf_80 : decode cX11_pairingsOf 80 = .ok (.ifCond .eq 43, 3) := by decide +kernel
theorem dX11_pairingsOf_83 : decode cX11_pairingsOf 83 = .ok (.iinc 2 1, 3) := by decide +kernel
theorem dX11_pairingsOf_86 : decode cX11_pairingsOf 86 = .ok (.iconst 0, 1) := by decide +kernel
theorem dX11_pairingsOf_87 : decode cX11_pairingsOf 87 = .ok (.istore 4, 2) := by decide +kernel
theorem dX11_pairingsOf_89 : decode cX11_pairingsOf 89 = .ok (.iload 4, 2) := by decide +kernel
theorem dX11_pairingsOf_91 : decode cX11_pairingsOf 91 = .ok (.aload_n 0, 1) := by decide +kernel
theorem dX11_pairingsOf_92 : decode cX11_pairingsOf 92 = .ok (.getfield 65, 3) := by decide +kernel
theorem dX11_pairingsOf_95 : decode cX11_pairingsOf 95 = .ok (.if_icmp .ge 28, 3) := by decide +kernel
theorem dX11_pairingsOf_98 : decode cX11_pairingsOf 98 = .ok (.aload_n 0, 1) := by decide +kernel
theorem dX11_pairingsOf_99 : decode cX11_pairingsOf 99 = .ok (.getfield 46, 3) := by decide +kernel
theorem dX11_pairingsOf_102 : decode cX11_pairingsOf 102 = .ok (.iload 4, 2) := by decide +kernel
theorem dX11_pairingsOf_104 : decode cX11_pairingsOf 104 = .ok (.dup2, 1) := by decide +kernel
theorem dX11_pairingsOf_105 : decode cX11_pairingsOf 105 = .ok (.iaload, 1) := by decide +kernel
theorem dX11_pairingsOf_106 : decode cX11_pairingsOf 106 = .ok (.iconst 1, 1) := by decide +kernel
theorem dX11_pairingsOf_107 : decode cX11_pairingsOf 107 = .ok (.aload_n 0, 1) := by decide +kernel
theorem dX11_pairingsOf_108 : decode cX11_pairingsOf 108 = .ok (.getfield 43, 3) := by decide +kernel
theorem dX11_pairingsOf_111 : decode cX11_pairingsOf 111 = .ok (.iload 4, 2) := by decide +kernel
theorem dX11_pairingsOf_113 : decode cX11_pairingsOf 113 = .ok (.iaload, 1) := by decide +kernel
theorem dX11_pairingsOf_114 : decode cX11_pairingsOf 114 = .ok (.ishl, 1) := by decide +kernel
theorem dX11_pairingsOf_115 : decode cX11_pairingsOf 115 = .ok (.ior, 1) := by decide +kernel
theorem dX11_pairingsOf_116 : decode cX11_pairingsOf 116 = .ok (.iastore, 1) := by decide +kernel
theorem dX11_pairingsOf_117 : decode cX11_pairingsOf 117 = .ok (.iinc 4 1, 3) := by decide +kernel
theorem dX11_pairingsOf_120 : decode cX11_pairingsOf 120 = .ok (.goto (-31), 3) := by decide +kernel
theorem dX11_pairingsOf_123 : decode cX11_pairingsOf 123 = .ok (.iinc 3 1, 3) := by decide +kernel
theorem dX11_pairingsOf_126 : decode cX11_pairingsOf 126 = .ok (.goto (-60), 3) := by decide +kernel
theorem dX11_pairingsOf_129 : decode cX11_pairingsOf 129 = .ok (.iload_n 2, 1) := by decide +kernel
theorem dX11_pairingsOf_130 : decode cX11_pairingsOf 130 = .ok (.ireturn, 1) := by decide +kernel
theorem dX11_pairings_0 : decode cX11_pairings 0 = .ok (.aload_n 0, 1) := by decide +kernel
theorem dX11_pairings_1 : decode cX11_pairings 1 = .ok (.invokevirtual 243, 3) := by decide +kernel
theorem dX11_pairings_4 : decode cX11_pairings 4 = .ok (.ireturn, 1) := by decide +kernel
theorem dX11_twinNow_0 : decode cX11_twinNow 0 = .ok (.iconst (-1), 1) := by decide +kernel
theorem dX11_twinNow_1 : decode cX11_twinNow 1 = .ok (.istore_n 2, 1) := by decide +kernel
theorem dX11_twinNow_2 : decode cX11_twinNow 2 = .ok (.iconst 0, 1) := by decide +kernel
theorem dX11_twinNow_3 : decode cX11_twinNow 3 = .ok (.istore_n 3, 1) := by decide +kernel
theorem dX11_twinNow_4 : decode cX11_twinNow 4 = .ok (.iload_n 3, 1) := by decide +kernel
theorem dX11_twinNow_5 : decode cX11_twinNow 5 = .ok (.aload_n 0, 1) := by decide +kernel
theorem dX11_twinNow_6 : decode cX11_twinNow 6 = .ok (.getfield 65, 3) := by decide +kernel
theorem dX11_twinNow_9 : decode cX11_twinNow 9 = .ok (.if_icmp .ge 27, 3) := by decide +kernel
theorem dX11_twinNow_12 : decode cX11_twinNow 12 = .ok (.aload_n 0, 1) := by decide +kernel
theorem dX11_twinNow_13 : decode cX11_twinNow 13 = .ok (.getfield 46, 3) := by decide +kernel
theorem dX11_twinNow_16 : decode cX11_twinNow 16 = .ok (.iload_n 1, 1) := by decide +kernel
theorem dX11_twinNow_17 : decode cX11_twinNow 17 = .ok (.iaload, 1) := by decide +kernel
theorem dX11_twinNow_18 : decode cX11_twinNow 18 = .ok (.iconst 1, 1) := by decide +kernel
theorem dX11_twinNow_19 : decode cX11_twinNow 19 = .ok (.iload_n 3, 1) := by decide +kernel
theorem dX11_twinNow_20 : decode cX11_twinNow 20 = .ok (.ishl, 1) := by decide +kernel
theorem dX11_twinNow_21 : decode cX11_twinNow 21 = .ok (.if_icmp .ne 7, 3) := by decide +kernel
theorem dX11_twinNow_24 : decode cX11_twinNow 24 = .ok (.iload_n 3, 1) := by decide +kernel
theorem dX11_twinNow_25 : decode cX11_twinNow 25 = .ok (.goto 4, 3) := by decide +kernel
theorem dX11_twinNow_28 : decode cX11_twinNow 28 = .ok (.iload_n 2, 1) := by decide +kernel
theorem dX11_twinNow_29 : decode cX11_twinNow 29 = .ok (.istore_n 2, 1) := by decide +kernel
theorem dX11_twinNow_30 : decode cX11_twinNow 30 = .ok (.iinc 3 1, 3) := by decide +kernel
theorem dX11_twinNow_33 : decode cX11_twinNow 33 = .ok (.goto (-29), 3) := by decide +kernel
theorem dX11_twinNow_36 : decode cX11_twinNow 36 = .ok (.iload_n 2, 1) := by decide +kernel
theorem dX11_twinNow_37 : decode cX11_twinNow 37 = .ok (.ireturn, 1) := by decide +kernel
theorem dX11_twin_0 : decode cX11_twin 0 = .ok (.iload_n 1, 1) := by decide +kernel
theorem dX11_twin_1 : decode cX11_twin 1 = .ok (.i2l, 1) := by decide +kernel
theorem dX11_twin_2 : decode cX11_twin 2 = .ok (.lconst 0, 1) := by decide +kernel
theorem dX11_twin_3 : decode cX11_twin 3 = .ok (.aload_n 0, 1) := by decide +kernel
theorem dX11_twin_4 : decode cX11_twin 4 = .ok (.getfield 65, 3) := by decide +kernel
theorem dX11_twin_7 : decode cX11_twin 7 = .ok (.iconst 1, 1) := by decide +kernel
theorem dX11_twin_8 : decode cX11_twin 8 = .ok (.isub, 1) := by decide +kernel
theorem dX11_twin_9 : decode cX11_twin 9 = .ok (.i2l, 1) := by decide +kernel
theorem dX11_twin_10 : decode cX11_twin 10 = .ok (.invokestatic 70, 3) := by decide +kernel
theorem dX11_twin_13 : decode cX11_twin 13 = .ok (.ifCond .ne 6, 3) := by decide +kernel
theorem dX11_twin_16 : decode cX11_twin 16 = .ok (.bipush (-101), 2) := by decide +kernel
theorem dX11_twin_18 : decode cX11_twin 18 = .ok (.ireturn, 1) := by decide +kernel
theorem dX11_twin_19 : decode cX11_twin 19 = .ok (.aload_n 0, 1) := by decide +kernel
theorem dX11_twin_20 : decode cX11_twin 20 = .ok (.invokevirtual 243, 3) := by decide +kernel
theorem dX11_twin_23 : decode cX11_twin 23 = .ok (.istore_n 2, 1) := by decide +kernel
theorem dX11_twin_24 : decode cX11_twin 24 = .ok (.aload_n 0, 1) := by decide +kernel
theorem dX11_twin_25 : decode cX11_twin 25 = .ok (.iload_n 1, 1) := by decide +kernel
theorem dX11_twin_26 : decode cX11_twin 26 = .ok (.invokevirtual 246, 3) := by decide +kernel
theorem dX11_twin_29 : decode cX11_twin 29 = .ok (.ireturn, 1) := by decide +kernel
theorem dX11_round_0 : decode cX11_round 0 = .ok (.iload_n 1, 1) := by decide +kernel
theorem dX11_round_1 : decode cX11_round 1 = .ok (.i2l, 1) := by decide +kernel
theorem dX11_round_2 : decode cX11_round 2 = .ok (.ldc2_w 249, 3) := by decide +kernel
theorem dX11_round_5 : decode cX11_round 5 = .ok (.ldc2_w 74, 3) := by decide +kernel
theorem dX11_round_8 : decode cX11_round 8 = .ok (.invokestatic 70, 3) := by decide +kernel
theorem dX11_round_11 : decode cX11_round 11 = .ok (.ifCond .eq 22, 3) := by decide +kernel
theorem dX11_round_14 : decode cX11_round 14 = .ok (.iload_n 2, 1) := by decide +kernel
theorem dX11_round_15 : decode cX11_round 15 = .ok (.i2l, 1) := by decide +kernel
theorem dX11_round_16 : decode cX11_round 16 = .ok (.lconst 0, 1) := by decide +kernel
theorem dX11_round_17 : decode cX11_round 17 = .ok (.ldc2_w 74, 3) := by decide +kernel
theorem dX11_round_20 : decode cX11_round 20 = .ok (.invokestatic 70, 3) := by decide +kernel
theorem dX11_round_23 : decode cX11_round 23 = .ok (.ifCond .eq 10, 3) := by decide +kernel
theorem dX11_round_26 : decode cX11_round 26 = .ok (.iload_n 3, 1) := by decide +kernel
theorem dX11_round_27 : decode cX11_round 27 = .ok (.invokestatic 157, 3) := by decide +kernel
theorem dX11_round_30 : decode cX11_round 30 = .ok (.ifCond .ne 7, 3) := by decide +kernel
theorem dX11_round_33 : decode cX11_round 33 = .ok (.ldc2_w 160, 3) := by decide +kernel
theorem dX11_round_36 : decode cX11_round 36 = .ok (.lreturn, 1) := by decide +kernel
theorem dX11_round_37 : decode cX11_round 37 = .ok (.lconst 1, 1) := by decide +kernel
theorem dX11_round_38 : decode cX11_round 38 = .ok (.lstore 4, 2) := by decide +kernel
theorem dX11_round_40 : decode cX11_round 40 = .ok (.lconst 1, 1) := by decide +kernel
theorem dX11_round_41 : decode cX11_round 41 = .ok (.lstore 6, 2) := by decide +kernel
theorem dX11_round_43 : decode cX11_round 43 = .ok (.iconst 1, 1) := by decide +kernel
theorem dX11_round_44 : decode cX11_round 44 = .ok (.istore 8, 2) := by decide +kernel
theorem dX11_round_46 : decode cX11_round 46 = .ok (.iload 8, 2) := by decide +kernel
theorem dX11_round_48 : decode cX11_round 48 = .ok (.iload_n 1, 1) := by decide +kernel
theorem dX11_round_49 : decode cX11_round 49 = .ok (.if_icmp .ge 24, 3) := by decide +kernel
theorem dX11_round_52 : decode cX11_round 52 = .ok (.lload 4, 2) := by decide +kernel
theorem dX11_round_54 : decode cX11_round 54 = .ok (.iload_n 2, 1) := by decide +kernel
theorem dX11_round_55 : decode cX11_round 55 = .ok (.i2l, 1) := by decide +kernel
theorem dX11_round_56 : decode cX11_round 56 = .ok (.lmul, 1) := by decide +kernel
theorem dX11_round_57 : decode cX11_round 57 = .ok (.lstore 4, 2) := by decide +kernel
theorem dX11_round_59 : decode cX11_round 59 = .ok (.lload 6, 2) := by decide +kernel
theorem dX11_round_61 : decode cX11_round 61 = .ok (.ldc2_w 166, 3) := by decide +kernel
theorem dX11_round_64 : decode cX11_round 64 = .ok (.lmul, 1) := by decide +kernel
theorem dX11_round_65 : decode cX11_round 65 = .ok (.lstore 6, 2) := by decide +kernel
theorem dX11_round_67 : decode cX11_round 67 = .ok (.iinc 8 1, 3) := by decide +kernel
theorem dX11_round_70 : decode cX11_round 70 = .ok (.goto (-24), 3) := by decide +kernel
theorem dX11_round_73 : decode cX11_round 73 = .ok (.lload 4, 2) := by decide +kernel
theorem dX11_round_75 : decode cX11_round 75 = .ok (.lload 6, 2) := by decide +kernel
theorem dX11_round_77 : decode cX11_round 77 = .ok (.iload_n 3, 1) := by decide +kernel
theorem dX11_round_78 : decode cX11_round 78 = .ok (.invokestatic 162, 3) := by decide +kernel
theorem dX11_round_81 : decode cX11_round 81 = .ok (.lreturn, 1) := by decide +kernel
theorem dX11_image_0 : decode cX11_image 0 = .ok (.iconst 0, 1) := by decide +kernel
theorem dX11_image_1 : decode cX11_image 1 = .ok (.istore_n 1, 1) := by decide +kernel
theorem dX11_image_2 : decode cX11_image 2 = .ok (.iload_n 1, 1) := by decide +kernel
theorem dX11_image_3 : decode cX11_image 3 = .ok (.bipush 24, 2) := by decide +kernel
theorem dX11_image_5 : decode cX11_image 5 = .ok (.if_icmp .ge 21, 3) := by decide +kernel
theorem dX11_image_8 : decode cX11_image 8 = .ok (.aload_n 0, 1) := by decide +kernel
theorem dX11_image_9 : decode cX11_image 9 = .ok (.getfield 49, 3) := by decide +kernel
theorem dX11_image_12 : decode cX11_image 12 = .ok (.iload_n 1, 1) := by decide +kernel
theorem dX11_image_13 : decode cX11_image 13 = .ok (.aload_n 0, 1) := by decide +kernel
theorem dX11_image_14 : decode cX11_image 14 = .ok (.getfield 28, 3) := by decide +kernel
theorem dX11_image_17 : decode cX11_image 17 = .ok (.iload_n 1, 1) := by decide +kernel
theorem dX11_image_18 : decode cX11_image 18 = .ok (.iaload, 1) := by decide +kernel
theorem dX11_image_19 : decode cX11_image 19 = .ok (.iastore, 1) := by decide +kernel
theorem dX11_image_20 : decode cX11_image 20 = .ok (.iinc 1 1, 3) := by decide +kernel
theorem dX11_image_23 : decode cX11_image 23 = .ok (.goto (-21), 3) := by decide +kernel
theorem dX11_image_26 : decode cX11_image 26 = .ok (.iconst 0, 1) := by decide +kernel
theorem dX11_image_27 : decode cX11_image 27 = .ok (.istore_n 1, 1) := by decide +kernel
theorem dX11_image_28 : decode cX11_image 28 = .ok (.iload_n 1, 1) := by decide +kernel
theorem dX11_image_29 : decode cX11_image 29 = .ok (.bipush 10, 2) := by decide +kernel
theorem dX11_image_31 : decode cX11_image 31 = .ok (.if_icmp .ge 21, 3) := by decide +kernel
theorem dX11_image_34 : decode cX11_image 34 = .ok (.aload_n 0, 1) := by decide +kernel
theorem dX11_image_35 : decode cX11_image 35 = .ok (.getfield 52, 3) := by decide +kernel
theorem dX11_image_38 : decode cX11_image 38 = .ok (.iload_n 1, 1) := by decide +kernel
theorem dX11_image_39 : decode cX11_image 39 = .ok (.aload_n 0, 1) := by decide +kernel
theorem dX11_image_40 : decode cX11_image 40 = .ok (.getfield 13, 3) := by decide +kernel
theorem dX11_image_43 : decode cX11_image 43 = .ok (.iload_n 1, 1) := by decide +kernel
theorem dX11_image_44 : decode cX11_image 44 = .ok (.iaload, 1) := by decide +kernel
theorem dX11_image_45 : decode cX11_image 45 = .ok (.iastore, 1) := by decide +kernel
theorem dX11_image_46 : decode cX11_image 46 = .ok (.iinc 1 1, 3) := by decide +kernel
theorem dX11_image_49 : decode cX11_image 49 = .ok (.goto (-21), 3) := by decide +kernel
theorem dX11_image_52 : decode cX11_image 52 = .ok (.iconst 0, 1) := by decide +kernel
theorem dX11_image_53 : decode cX11_image 53 = .ok (.istore_n 1, 1) := by decide +kernel
theorem dX11_image_54 : decode cX11_image 54 = .ok (.iload_n 1, 1) := by decide +kernel
theorem dX11_image_55 : decode cX11_image 55 = .ok (.iconst 4, 1) := by decide +kernel
theorem dX11_image_56 : decode cX11_image 56 = .ok (.if_icmp .ge 21, 3) := by decide +kernel
theorem dX11_image_59 : decode cX11_image 59 = .ok (.aload_n 0, 1) := by decide +kernel
theorem dX11_image_60 : decode cX11_image 60 = .ok (.getfield 55, 3) := by decide +kernel
theorem dX11_image_63 : decode cX11_image 63 = .ok (.iload_n 1, 1) := by decide +kernel
theorem dX11_image_64 : decode cX11_image 64 = .ok (.aload_n 0, 1) := by decide +kernel
theorem dX11_image_65 : decode cX11_image 65 = .ok (.getfield 37, 3) := by decide +kernel
theorem dX11_image_68 : decode cX11_image 68 = .ok (.iload_n 1, 1) := by decide +kernel
theorem dX11_image_69 : decode cX11_image 69 = .ok (.iaload, 1) := by decide +kernel
theorem dX11_image_70 : decode cX11_image 70 = .ok (.iastore, 1) := by decide +kernel
theorem dX11_image_71 : decode cX11_image 71 = .ok (.iinc 1 1, 3) := by decide +kernel
theorem dX11_image_74 : decode cX11_image 74 = .ok (.goto (-20), 3) := by decide +kernel
theorem dX11_image_77 : decode cX11_image 77 = .ok (.iconst 0, 1) := by decide +kernel
theorem dX11_image_78 : decode cX11_image 78 = .ok (.istore_n 1, 1) := by decide +kernel
theorem dX11_image_79 : decode cX11_image 79 = .ok (.iload_n 1, 1) := by decide +kernel
theorem dX11_image_80 : decode cX11_image 80 = .ok (.bipush 16, 2) := by decide +kernel
theorem dX11_image_82 : decode cX11_image 82 = .ok (.if_icmp .ge 21, 3) := by decide +kernel
theorem dX11_image_85 : decode cX11_image 85 = .ok (.aload_n 0, 1) := by decide +kernel
theorem dX11_image_86 : decode cX11_image 86 = .ok (.getfield 58, 3) := by decide +kernel
theorem dX11_image_89 : decode cX11_image 89 = .ok (.iload_n 1, 1) := by decide +kernel
theorem dX11_image_90 : decode cX11_image 90 = .ok (.aload_n 0, 1) := by decide +kernel
theorem dX11_image_91 : decode cX11_image 91 = .ok (.getfield 40, 3) := by decide +kernel
theorem dX11_image_94 : decode cX11_image 94 = .ok (.iload_n 1, 1) := by decide +kernel
theorem dX11_image_95 : decode cX11_image 95 = .ok (.iaload, 1) := by decide +kernel
theorem dX11_image_96 : decode cX11_image 96 = .ok (.iastore, 1) := by decide +kernel
theorem dX11_image_97 : decode cX11_image 97 = .ok (.iinc 1 1, 3) := by decide +kernel
theorem dX11_image_100 : decode cX11_image 100 = .ok (.goto (-21), 3) := by decide +kernel
theorem dX11_image_103 : decode cX11_image 103 = .ok (.aload_n 0, 1) := by decide +kernel
theorem dX11_image_104 : decode cX11_image 104 = .ok (.aload_n 0, 1) := by decide +kernel
theorem dX11_image_105 : decode cX11_image 105 = .ok (.getfield 120, 3) := by decide +kernel
theorem dX11_image_108 : decode cX11_image 108 = .ok (.putfield 61, 3) := by decide +kernel
theorem dX11_image_111 : decode cX11_image 111 = .ok (.aload_n 0, 1) := by decide +kernel
theorem dX11_image_112 : decode cX11_image 112 = .ok (.aload_n 0, 1) := by decide +kernel
theorem dX11_image_113 : decode cX11_image 113 = .ok (.getfield 222, 3) := by decide +kernel
theorem dX11_image_116 : decode cX11_image 116 = .ok (.putfield 251, 3) := by decide +kernel
theorem dX11_image_119 : decode cX11_image 119 = .ok (.aload_n 0, 1) := by decide +kernel
theorem dX11_image_120 : decode cX11_image 120 = .ok (.aload_n 0, 1) := by decide +kernel
theorem dX11_image_121 : decode cX11_image 121 = .ok (.getfield 231, 3) := by decide +kernel
theorem dX11_image_124 : decode cX11_image 124 = .ok (.putfield 254, 3) := by decide +kernel
theorem dX11_image_127 : decode cX11_image 127 = .ok (.aload_n 0, 1) := by decide +kernel
theorem dX11_image_128 : decode cX11_image 128 = .ok (.aload_n 0, 1) := by decide +kernel
theorem dX11_image_129 : decode cX11_image 129 = .ok (.getfield 123, 3) := by decide +kernel
theorem dX11_image_132 : decode cX11_image 132 = .ok (.putfield 257, 3) := by decide +kernel
theorem dX11_image_135 : decode cX11_image 135 = .ok (.aload_n 0, 1) := by decide +kernel
theorem dX11_image_136 : decode cX11_image 136 = .ok (.aload_n 0, 1) := by decide +kernel
theorem dX11_image_137 : decode cX11_image 137 = .ok (.getfield 234, 3) := by decide +kernel
theorem dX11_image_140 : decode cX11_image 140 = .ok (.putfield 260, 3) := by decide +kernel
theorem dX11_image_143 : decode cX11_image 143 = .ok (.aload_n 0, 1) := by decide +kernel
theorem dX11_image_144 : decode cX11_image 144 = .ok (.getfield 120, 3) := by decide +kernel
theorem dX11_image_147 : decode cX11_image 147 = .ok (.ireturn, 1) := by decide +kernel
theorem dX11_restore_0 : decode cX11_restore 0 = .ok (.aload_n 0, 1) := by decide +kernel
theorem dX11_restore_1 : decode cX11_restore 1 = .ok (.getfield 61, 3) := by decide +kernel
theorem dX11_restore_4 : decode cX11_restore 4 = .ok (.iconst (-1), 1) := by decide +kernel
theorem dX11_restore_5 : decode cX11_restore 5 = .ok (.if_icmp .eq 25, 3) := by decide +kernel
theorem dX11_restore_8 : decode cX11_restore 8 = .ok (.aload_n 0, 1) := by decide +kernel
theorem dX11_restore_9 : decode cX11_restore 9 = .ok (.getfield 257, 3) := by decide +kernel
theorem dX11_restore_12 : decode cX11_restore 12 = .ok (.aload_n 0, 1) := by decide +kernel
theorem dX11_restore_13 : decode cX11_restore 13 = .ok (.getfield 123, 3) := by decide +kernel
theorem dX11_restore_16 : decode cX11_restore 16 = .ok (.if_icmp .ne 14, 3) := by decide +kernel
theorem dX11_restore_19 : decode cX11_restore 19 = .ok (.aload_n 0, 1) := by decide +kernel
theorem dX11_restore_20 : decode cX11_restore 20 = .ok (.getfield 260, 3) := by decide +kernel
theorem dX11_restore_23 : decode cX11_restore 23 = .ok (.aload_n 0, 1) := by decide +kernel
theorem dX11_restore_24 : decode cX11_restore 24 = .ok (.getfield 234, 3) := by decide +kernel
theorem dX11_restore_27 : decode cX11_restore 27 = .ok (.if_icmp .eq 6, 3) := by decide +kernel
theorem dX11_restore_30 : decode cX11_restore 30 = .ok (.bipush (-103), 2) := by decide +kernel
theorem dX11_restore_32 : decode cX11_restore 32 = .ok (.ireturn, 1) := by decide +kernel
theorem dX11_restore_33 : decode cX11_restore 33 = .ok (.iconst 0, 1) := by decide +kernel
theorem dX11_restore_34 : decode cX11_restore 34 = .ok (.istore_n 1, 1) := by decide +kernel
theorem dX11_restore_35 : decode cX11_restore 35 = .ok (.iload_n 1, 1) := by decide +kernel
theorem dX11_restore_36 : decode cX11_restore 36 = .ok (.bipush 24, 2) := by decide +kernel
theorem dX11_restore_38 : decode cX11_restore 38 = .ok (.if_icmp .ge 21, 3) := by decide +kernel
theorem dX11_restore_41 : decode cX11_restore 41 = .ok (.aload_n 0, 1) := by decide +kernel
theorem dX11_restore_42 : decode cX11_restore 42 = .ok (.getfield 28, 3) := by decide +kernel
theorem dX11_restore_45 : decode cX11_restore 45 = .ok (.iload_n 1, 1) := by decide +kernel
theorem dX11_restore_46 : decode cX11_restore 46 = .ok (.aload_n 0, 1) := by decide +kernel
theorem dX11_restore_47 : decode cX11_restore 47 = .ok (.getfield 49, 3) := by decide +kernel
theorem dX11_restore_50 : decode cX11_restore 50 = .ok (.iload_n 1, 1) := by decide +kernel
theorem dX11_restore_51 : decode cX11_restore 51 = .ok (.iaload, 1) := by decide +kernel
theorem dX11_restore_52 : decode cX11_restore 52 = .ok (.iastore, 1) := by decide +kernel
theorem dX11_restore_53 : decode cX11_restore 53 = .ok (.iinc 1 1, 3) := by decide +kernel
theorem dX11_restore_56 : decode cX11_restore 56 = .ok (.goto (-21), 3) := by decide +kernel
theorem dX11_restore_59 : decode cX11_restore 59 = .ok (.iconst 0, 1) := by decide +kernel
theorem dX11_restore_60 : decode cX11_restore 60 = .ok (.istore_n 1, 1) := by decide +kernel
theorem dX11_restore_61 : decode cX11_restore 61 = .ok (.iload_n 1, 1) := by decide +kernel
theorem dX11_restore_62 : decode cX11_restore 62 = .ok (.bipush 10, 2) := by decide +kernel
theorem dX11_restore_64 : decode cX11_restore 64 = .ok (.if_icmp .ge 21, 3) := by decide +kernel
theorem dX11_restore_67 : decode cX11_restore 67 = .ok (.aload_n 0, 1) := by decide +kernel
theorem dX11_restore_68 : decode cX11_restore 68 = .ok (.getfield 13, 3) := by decide +kernel
theorem dX11_restore_71 : decode cX11_restore 71 = .ok (.iload_n 1, 1) := by decide +kernel
theorem dX11_restore_72 : decode cX11_restore 72 = .ok (.aload_n 0, 1) := by decide +kernel
theorem dX11_restore_73 : decode cX11_restore 73 = .ok (.getfield 52, 3) := by decide +kernel
theorem dX11_restore_76 : decode cX11_restore 76 = .ok (.iload_n 1, 1) := by decide +kernel
theorem dX11_restore_77 : decode cX11_restore 77 = .ok (.iaload, 1) := by decide +kernel
theorem dX11_restore_78 : decode cX11_restore 78 = .ok (.iastore, 1) := by decide +kernel
theorem dX11_restore_79 : decode cX11_restore 79 = .ok (.iinc 1 1, 3) := by decide +kernel
theorem dX11_restore_82 : decode cX11_restore 82 = .ok (.goto (-21), 3) := by decide +kernel
theorem dX11_restore_85 : decode cX11_restore 85 = .ok (.iconst 0, 1) := by decide +kernel
theorem dX11_restore_86 : decode cX11_restore 86 = .ok (.istore_n 1, 1) := by decide +kernel
theorem dX11_restore_87 : decode cX11_restore 87 = .ok (.iload_n 1, 1) := by decide +kernel
theorem dX11_restore_88 : decode cX11_restore 88 = .ok (.iconst 4, 1) := by decide +kernel
theorem dX11_restore_89 : decode cX11_restore 89 = .ok (.if_icmp .ge 21, 3) := by decide +kernel
theorem dX11_restore_92 : decode cX11_restore 92 = .ok (.aload_n 0, 1) := by decide +kernel
theorem dX11_restore_93 : decode cX11_restore 93 = .ok (.getfield 37, 3) := by decide +kernel
theorem dX11_restore_96 : decode cX11_restore 96 = .ok (.iload_n 1, 1) := by decide +kernel
theorem dX11_restore_97 : decode cX11_restore 97 = .ok (.aload_n 0, 1) := by decide +kernel
theorem dX11_restore_98 : decode cX11_restore 98 = .ok (.getfield 55, 3) := by decide +kernel
theorem dX11_restore_101 : decode cX11_restore 101 = .ok (.iload_n 1, 1) := by decide +kernel
theorem dX11_restore_102 : decode cX11_restore 102 = .ok (.iaload, 1) := by decide +kernel
theorem dX11_restore_103 : decode cX11_restore 103 = .ok (.iastore, 1) := by decide +kernel
theorem dX11_restore_104 : decode cX11_restore 104 = .ok (.iinc 1 1, 3) := by decide +kernel
theorem dX11_restore_107 : decode cX11_restore 107 = .ok (.goto (-20), 3) := by decide +kernel
theorem dX11_restore_110 : decode cX11_restore 110 = .ok (.iconst 0, 1) := by decide +kernel
theorem dX11_restore_111 : decode cX11_restore 111 = .ok (.istore_n 1, 1) := by decide +kernel
theorem dX11_restore_112 : decode cX11_restore 112 = .ok (.iload_n 1, 1) := by decide +kernel
theorem dX11_restore_113 : decode cX11_restore 113 = .ok (.bipush 16, 2) := by decide +kernel
theorem dX11_restore_115 : decode cX11_restore 115 = .ok (.if_icmp .ge 21, 3) := by decide +kernel
theorem dX11_restore_118 : decode cX11_restore 118 = .ok (.aload_n 0, 1) := by decide +kernel
theorem dX11_restore_119 : decode cX11_restore 119 = .ok (.getfield 40, 3) := by decide +kernel
theorem dX11_restore_122 : decode cX11_restore 122 = .ok (.iload_n 1, 1) := by decide +kernel
theorem dX11_restore_123 : decode cX11_restore 123 = .ok (.aload_n 0, 1) := by decide +kernel
theorem dX11_restore_124 : decode cX11_restore 124 = .ok (.getfield 58, 3) := by decide +kernel
theorem dX11_restore_127 : decode cX11_restore 127 = .ok (.iload_n 1, 1) := by decide +kernel
theorem dX11_restore_128 : decode cX11_restore 128 = .ok (.iaload, 1) := by decide +kernel
theorem dX11_restore_129 : decode cX11_restore 129 = .ok (.iastore, 1) := by decide +kernel
theorem dX11_restore_130 : decode cX11_restore 130 = .ok (.iinc 1 1, 3) := by decide +kernel
theorem dX11_restore_133 : decode cX11_restore 133 = .ok (.goto (-21), 3) := by decide +kernel
theorem dX11_restore_136 : decode cX11_restore 136 = .ok (.aload_n 0, 1) := by decide +kernel
theorem dX11_restore_137 : decode cX11_restore 137 = .ok (.aload_n 0, 1) := by decide +kernel
theorem dX11_restore_138 : decode cX11_restore 138 = .ok (.getfield 61, 3) := by decide +kernel
theorem dX11_restore_141 : decode cX11_restore 141 = .ok (.putfield 120, 3) := by decide +kernel
theorem dX11_restore_144 : decode cX11_restore 144 = .ok (.aload_n 0, 1) := by decide +kernel
theorem dX11_restore_145 : decode cX11_restore 145 = .ok (.aload_n 0, 1) := by decide +kernel
theorem dX11_restore_146 : decode cX11_restore 146 = .ok (.getfield 251, 3) := by decide +kernel
theorem dX11_restore_149 : decode cX11_restore 149 = .ok (.putfield 222, 3) := by decide +kernel
theorem dX11_restore_152 : decode cX11_restore 152 = .ok (.aload_n 0, 1) := by decide +kernel
theorem dX11_restore_153 : decode cX11_restore 153 = .ok (.aload_n 0, 1) := by decide +kernel
theorem dX11_restore_154 : decode cX11_restore 154 = .ok (.getfield 254, 3) := by decide +kernel
theorem dX11_restore_157 : decode cX11_restore 157 = .ok (.putfield 231, 3) := by decide +kernel
theorem dX11_restore_160 : decode cX11_restore 160 = .ok (.aload_n 0, 1) := by decide +kernel
theorem dX11_restore_161 : decode cX11_restore 161 = .ok (.getfield 120, 3) := by decide +kernel
theorem dX11_restore_164 : decode cX11_restore 164 = .ok (.ireturn, 1) := by decide +kernel
theorem dX11_roadMany_0 : decode cX11_roadMany 0 = .ok (.iconst 0, 1) := by decide +kernel
theorem dX11_roadMany_1 : decode cX11_roadMany 1 = .ok (.istore_n 1, 1) := by decide +kernel
theorem dX11_roadMany_2 : decode cX11_roadMany 2 = .ok (.iconst 0, 1) := by decide +kernel
theorem dX11_roadMany_3 : decode cX11_roadMany 3 = .ok (.istore_n 2, 1) := by decide +kernel
theorem dX11_roadMany_4 : decode cX11_roadMany 4 = .ok (.iload_n 2, 1) := by decide +kernel
theorem dX11_roadMany_5 : decode cX11_roadMany 5 = .ok (.bipush 36, 2) := by decide +kernel
theorem dX11_roadMany_7 : decode cX11_roadMany 7 = .ok (.if_icmp .ge 37, 3) := by decide +kernel
theorem dX11_roadMany_10 : decode cX11_roadMany 10 = .ok (.iload_n 1, 1) := by decide +kernel
theorem dX11_roadMany_11 : decode cX11_roadMany 11 = .ok (.iload_n 2, 1) := by decide +kernel
theorem dX11_roadMany_12 : decode cX11_roadMany 12 = .ok (.bipush 6, 2) := by decide +kernel
theorem dX11_roadMany_14 : decode cX11_roadMany 14 = .ok (.idiv, 1) := by decide +kernel
theorem dX11_roadMany_15 : decode cX11_roadMany 15 = .ok (.iload_n 2, 1) := by decide +kernel
theorem dX11_roadMany_16 : decode cX11_roadMany 16 = .ok (.bipush 6, 2) := by decide +kernel
theorem dX11_roadMany_18 : decode cX11_roadMany 18 = .ok (.irem, 1) := by decide +kernel
theorem dX11_roadMany_19 : decode cX11_roadMany 19 = .ok (.if_icmp .ge 16, 3) := by decide +kernel
theorem dX11_roadMany_22 : decode cX11_roadMany 22 = .ok (.aload_n 0, 1) := by decide +kernel
theorem dX11_roadMany_23 : decode cX11_roadMany 23 = .ok (.getfield 7, 3) := by decide +kernel
theorem dX11_roadMany_26 : decode cX11_roadMany 26 = .ok (.iload_n 2, 1) := by decide +kernel
theorem dX11_roadMany_27 : decode cX11_roadMany 27 = .ok (.iaload, 1) := by decide +kernel
theorem dX11_roadMany_28 : decode cX11_roadMany 28 = .ok (.ifCond .le 7, 3) := by decide +kernel
theorem dX11_roadMany_31 : decode cX11_roadMany 31 = .ok (.iconst 1, 1) := by decide +kernel
theorem dX11_roadMany_32 : decode cX11_roadMany 32 = .ok (.goto 4, 3) := by decide +kernel
theorem dX11_roadMany_35 : decode cX11_roadMany 35 = .ok (.iconst 0, 1) := by decide +kernel
theorem dX11_roadMany_36 : decode cX11_roadMany 36 = .ok (.iadd, 1) := by decide +kernel
theorem dX11_roadMany_37 : decode cX11_roadMany 37 = .ok (.istore_n 1, 1) := by decide +kernel
theorem dX11_roadMany_38 : decode cX11_roadMany 38 = .ok (.iinc 2 1, 3) := by decide +kernel
theorem dX11_roadMany_41 : decode cX11_roadMany 41 = .ok (.goto (-37), 3) := by decide +kernel
theorem dX11_roadMany_44 : decode cX11_roadMany 44 = .ok (.iload_n 1, 1) := by decide +kernel
theorem dX11_roadMany_45 : decode cX11_roadMany 45 = .ok (.ireturn, 1) := by decide +kernel
theorem dX11_countOf_0 : decode cX11_countOf 0 = .ok (.iload_n 1, 1) := by decide +kernel
theorem dX11_countOf_1 : decode cX11_countOf 1 = .ok (.tableswitch 96 0 8 #[51, 56, 61, 66, 71, 76, 81, 86, 91], 51) := by decide +kernel
theorem dX11_countOf_52 : decode cX11_countOf 52 = .ok (.aload_n 0, 1) := by decide +kernel
theorem dX11_countOf_53 : decode cX11_countOf 53 = .ok (.getfield 117, 3) := by decide +kernel
theorem dX11_countOf_56 : decode cX11_countOf 56 = .ok (.ireturn, 1) := by decide +kernel
theorem dX11_countOf_57 : decode cX11_countOf 57 = .ok (.aload_n 0, 1) := by decide +kernel
theorem dX11_countOf_58 : decode cX11_countOf 58 = .ok (.getfield 120, 3) := by decide +kernel
theorem dX11_countOf_61 : decode cX11_countOf 61 = .ok (.ireturn, 1) := by decide +kernel
theorem dX11_countOf_62 : decode cX11_countOf 62 = .ok (.aload_n 0, 1) := by decide +kernel
theorem dX11_countOf_63 : decode cX11_countOf 63 = .ok (.invokevirtual 263, 3) := by decide +kernel
theorem dX11_countOf_66 : decode cX11_countOf 66 = .ok (.ireturn, 1) := by decide +kernel
theorem dX11_countOf_67 : decode cX11_countOf 67 = .ok (.aload_n 0, 1) := by decide +kernel
theorem dX11_countOf_68 : decode cX11_countOf 68 = .ok (.getfield 222, 3) := by decide +kernel
theorem dX11_countOf_71 : decode cX11_countOf 71 = .ok (.ireturn, 1) := by decide +kernel
theorem dX11_countOf_72 : decode cX11_countOf 72 = .ok (.aload_n 0, 1) := by decide +kernel
theorem dX11_countOf_73 : decode cX11_countOf 73 = .ok (.getfield 65, 3) := by decide +kernel
theorem dX11_countOf_76 : decode cX11_countOf 76 = .ok (.ireturn, 1) := by decide +kernel
theorem dX11_countOf_77 : decode cX11_countOf 77 = .ok (.aload_n 0, 1) := by decide +kernel
theorem dX11_countOf_78 : decode cX11_countOf 78 = .ok (.getfield 231, 3) := by decide +kernel
theorem dX11_countOf_81 : decode cX11_countOf 81 = .ok (.ireturn, 1) := by decide +kernel
theorem dX11_countOf_82 : decode cX11_countOf 82 = .ok (.aload_n 0, 1) := by decide +kernel
theorem dX11_countOf_83 : decode cX11_countOf 83 = .ok (.getfield 87, 3) := by decide +kernel
theorem dX11_countOf_86 : decode cX11_countOf 86 = .ok (.ireturn, 1) := by decide +kernel
theorem dX11_countOf_87 : decode cX11_countOf 87 = .ok (.aload_n 0, 1) := by decide +kernel
theorem dX11_countOf_88 : decode cX11_countOf 88 = .ok (.getfield 123, 3) := by decide +kernel
theorem dX11_countOf_91 : decode cX11_countOf 91 = .ok (.ireturn, 1) := by decide +kernel
theorem dX11_countOf_92 : decode cX11_countOf 92 = .ok (.aload_n 0, 1) := by decide +kernel
theorem dX11_countOf_93 : decode cX11_countOf 93 = .ok (.getfield 197, 3) := by decide +kernel
theorem dX11_countOf_96 : decode cX11_countOf 96 = .ok (.ireturn, 1) := by decide +kernel
theorem dX11_countOf_97 : decode cX11_countOf 97 = .ok (.bipush (-102), 2) := by decide +kernel
theorem dX11_countOf_99 : decode cX11_countOf 99 = .ok (.ireturn, 1) := by decide +kernel
theorem dX11_count_0 : decode cX11_count 0 = .ok (.aload_n 0, 1) := by decide +kernel
theorem dX11_count_1 : decode cX11_count 1 = .ok (.iload_n 1, 1) := by decide +kernel
theorem dX11_count_2 : decode cX11_count 2 = .ok (.invokevirtual 266, 3) := by decide +kernel
theorem dX11_count_5 : decode cX11_count 5 = .ok (.ireturn, 1) := by decide +kernel
theorem dX11_say_0 : decode cX11_say 0 = .ok (.aload_n 0, 1) := by decide +kernel
theorem dX11_say_1 : decode cX11_say 1 = .ok (.ldc2_w 269, 3) := by decide +kernel
theorem dX11_say_4 : decode cX11_say 4 = .ok (.aload_n 0, 1) := by decide +kernel
theorem dX11_say_5 : decode cX11_say 5 = .ok (.getfield 271, 3) := by decide +kernel
theorem dX11_say_8 : decode cX11_say 8 = .ok (.lmul, 1) := by decide +kernel
theorem dX11_say_9 : decode cX11_say 9 = .ok (.lload_n 1, 1) := by decide +kernel
theorem dX11_say_10 : decode cX11_say 10 = .ok (.ladd, 1) := by decide +kernel
theorem dX11_say_11 : decode cX11_say 11 = .ok (.putfield 271, 3) := by decide +kernel
theorem dX11_say_14 : decode cX11_say 14 = .ok (.return_, 1) := by decide +kernel
theorem dX11_sayNews_0 : decode cX11_sayNews 0 = .ok (.aload_n 0, 1) := by decide +kernel
theorem dX11_sayNews_1 : decode cX11_sayNews 1 = .ok (.iconst 0, 1) := by decide +kernel
theorem dX11_sayNews_2 : decode cX11_sayNews 2 = .ok (.invokevirtual 183, 3) := by decide +kernel
theorem dX11_sayNews_5 : decode cX11_sayNews 5 = .ok (.aload_n 0, 1) := by decide +kernel
theorem dX11_sayNews_6 : decode cX11_sayNews 6 = .ok (.invokevirtual 187, 3) := by decide +kernel
theorem dX11_sayNews_9 : decode cX11_sayNews 9 = .ok (.iconst 0, 1) := by decide +kernel
theorem dX11_sayNews_10 : decode cX11_sayNews 10 = .ok (.istore_n 1, 1) := by decide +kernel
theorem dX11_sayNews_11 : decode cX11_sayNews 11 = .ok (.iload_n 1, 1) := by decide +kernel
theorem dX11_sayNews_12 : decode cX11_sayNews 12 = .ok (.bipush 36, 2) := by decide +kernel
theorem dX11_sayNews_14 : decode cX11_sayNews 14 = .ok (.if_icmp .ge 26, 3) := by decide +kernel
theorem dX11_sayNews_17 : decode cX11_sayNews 17 = .ok (.aload_n 0, 1) := by decide +kernel
theorem dX11_sayNews_18 : decode cX11_sayNews 18 = .ok (.aload_n 0, 1) := by decide +kernel
theorem dX11_sayNews_19 : decode cX11_sayNews 19 = .ok (.iload_n 1, 1) := by decide +kernel
theorem dX11_sayNews_20 : decode cX11_sayNews 20 = .ok (.bipush 6, 2) := by decide +kernel
theorem dX11_sayNews_22 : decode cX11_sayNews 22 = .ok (.idiv, 1) := by decide +kernel
theorem dX11_sayNews_23 : decode cX11_sayNews 23 = .ok (.iload_n 1, 1) := by decide +kernel
theorem dX11_sayNews_24 : decode cX11_sayNews 24 = .ok (.bipush 6, 2) := by decide +kernel
theorem dX11_sayNews_26 : decode cX11_sayNews 26 = .ok (.irem, 1) := by decide +kernel
theorem dX11_sayNews_27 : decode cX11_sayNews 27 = .ok (.invokevirtual 190, 3) := by decide +kernel
theorem dX11_sayNews_30 : decode cX11_sayNews 30 = .ok (.i2l, 1) := by decide +kernel
theorem dX11_sayNews_31 : decode cX11_sayNews 31 = .ok (.invokevirtual 275, 3) := by decide +kernel
theorem dX11_sayNews_34 : decode cX11_sayNews 34 = .ok (.iinc 1 1, 3) := by decide +kernel
theorem dX11_sayNews_37 : decode cX11_sayNews 37 = .ok (.goto (-26), 3) := by decide +kernel
theorem dX11_sayNews_40 : decode cX11_sayNews 40 = .ok (.return_, 1) := by decide +kernel
theorem dX11_digest_0 : decode cX11_digest 0 = .ok (.aload_n 0, 1) := by decide +kernel
theorem dX11_digest_1 : decode cX11_digest 1 = .ok (.ldc2_w 279, 3) := by decide +kernel
theorem dX11_digest_4 : decode cX11_digest 4 = .ok (.putfield 271, 3) := by decide +kernel
theorem dX11_digest_7 : decode cX11_digest 7 = .ok (.iconst 0, 1) := by decide +kernel
theorem dX11_digest_8 : decode cX11_digest 8 = .ok (.istore_n 1, 1) := by decide +kernel
theorem dX11_digest_9 : decode cX11_digest 9 = .ok (.iload_n 1, 1) := by decide +kernel
theorem dX11_digest_10 : decode cX11_digest 10 = .ok (.bipush 7, 2) := by decide +kernel
theorem dX11_digest_12 : decode cX11_digest 12 = .ok (.aload_n 0, 1) := by decide +kernel
theorem dX11_digest_13 : decode cX11_digest 13 = .ok (.getfield 117, 3) := by decide +kernel
theorem dX11_digest_16 : decode cX11_digest 16 = .ok (.imul, 1) := by decide +kernel
theorem dX11_digest_17 : decode cX11_digest 17 = .ok (.if_icmp .ge 20, 3) := by decide +kernel
theorem dX11_digest_20 : decode cX11_digest 20 = .ok (.aload_n 0, 1) := by decide +kernel
theorem dX11_digest_21 : decode cX11_digest 21 = .ok (.aload_n 0, 1) := by decide +kernel
theorem dX11_digest_22 : decode cX11_digest 22 = .ok (.getfield 22, 3) := by decide +kernel
theorem dX11_digest_25 : decode cX11_digest 25 = .ok (.iload_n 1, 1) := by decide +kernel
theorem dX11_digest_26 : decode cX11_digest 26 = .ok (.iaload, 1) := by decide +kernel
theorem dX11_digest_27 : decode cX11_digest 27 = .ok (.i2l, 1) := by decide +kernel
theorem dX11_digest_28 : decode cX11_digest 28 = .ok (.invokevirtual 275, 3) := by decide +kernel
theorem dX11_digest_31 : decode cX11_digest 31 = .ok (.iinc 1 1, 3) := by decide +kernel
theorem dX11_digest_34 : decode cX11_digest 34 = .ok (.goto (-25), 3) := by decide +kernel
theorem dX11_digest_37 : decode cX11_digest 37 = .ok (.iconst 0, 1) := by decide +kernel
theorem dX11_digest_38 : decode cX11_digest 38 = .ok (.istore_n 1, 1) := by decide +kernel
theorem dX11_digest_39 : decode cX11_digest 39 = .ok (.iload_n 1, 1) := by decide +kernel
theorem dX11_digest_40 : decode cX11_digest 40 = .ok (.bipush 10, 2) := by decide +kernel
theorem dX11_digest_42 : decode cX11_digest 42 = .ok (.if_icmp .ge 51, 3) := by decide +kernel
theorem dX11_digest_45 : decode cX11_digest 45 = .ok (.iconst 0, 1) := by decide +kernel
theorem dX11_digest_46 : decode cX11_digest 46 = .ok (.istore_n 2, 1) := by decide +kernel
theorem dX11_digest_47 : decode cX11_digest 47 = .ok (.iload_n 2, 1) := by decide +kernel
theorem dX11_digest_48 : decode cX11_digest 48 = .ok (.iconst 3, 1) := by decide +kernel
theorem dX11_digest_49 : decode cX11_digest 49 = .ok (.if_icmp .ge 20, 3) := by decide +kernel
theorem dX11_digest_52 : decode cX11_digest 52 = .ok (.aload_n 0, 1) := by decide +kernel
theorem dX11_digest_53 : decode cX11_digest 53 = .ok (.aload_n 0, 1) := by decide +kernel
theorem dX11_digest_54 : decode cX11_digest 54 = .ok (.iload_n 1, 1) := by decide +kernel
theorem dX11_digest_55 : decode cX11_digest 55 = .ok (.iload_n 2, 1) := by decide +kernel
theorem dX11_digest_56 : decode cX11_digest 56 = .ok (.invokevirtual 134, 3) := by decide +kernel
theorem dX11_digest_59 : decode cX11_digest 59 = .ok (.i2l, 1) := by decide +kernel
theorem dX11_digest_60 : decode cX11_digest 60 = .ok (.invokevirtual 275, 3) := by decide +kernel
theorem dX11_digest_63 : decode cX11_digest 63 = .ok (.iinc 2 1, 3) := by decide +kernel
theorem dX11_digest_66 : decode cX11_digest 66 = .ok (.goto (-19), 3) := by decide +kernel
theorem dX11_digest_69 : decode cX11_digest 69 = .ok (.aload_n 0, 1) := by decide +kernel
theorem dX11_digest_70 : decode cX11_digest 70 = .ok (.aload_n 0, 1) := by decide +kernel
theorem dX11_digest_71 : decode cX11_digest 71 = .ok (.iload_n 1, 1) := by decide +kernel
theorem dX11_digest_72 : decode cX11_digest 72 = .ok (.iconst 0, 1) := by decide +kernel
theorem dX11_digest_73 : decode cX11_digest 73 = .ok (.sipush 1999, 3) := by decide +kernel
theorem dX11_digest_76 : decode cX11_digest 76 = .ok (.aload_n 0, 1) := by decide +kernel
theorem dX11_digest_77 : decode cX11_digest 77 = .ok (.getfield 120, 3) := by decide +kernel
theorem dX11_digest_80 : decode cX11_digest 80 = .ok (.invokevirtual 151, 3) := by decide +kernel
theorem dX11_digest_83 : decode cX11_digest 83 = .ok (.i2l, 1) := by decide +kernel
theorem dX11_digest_84 : decode cX11_digest 84 = .ok (.invokevirtual 275, 3) := by decide +kernel
theorem dX11_digest_87 : decode cX11_digest 87 = .ok (.iinc 1 1, 3) := by decide +kernel
theorem dX11_digest_90 : decode cX11_digest 90 = .ok (.goto (-51), 3) := by decide +kernel
theorem dX11_digest_93 : decode cX11_digest 93 = .ok (.aload_n 0, 1) := by decide +kernel
theorem dX11_digest_94 : decode cX11_digest 94 = .ok (.aload_n 0, 1) := by decide +kernel
theorem dX11_digest_95 : decode cX11_digest 95 = .ok (.invokevirtual 171, 3) := by decide +kernel
theorem dX11_digest_98 : decode cX11_digest 98 = .ok (.i2l, 1) := by decide +kernel
theorem dX11_digest_99 : decode cX11_digest 99 = .ok (.invokevirtual 275, 3) := by decide +kernel
theorem dX11_digest_102 : decode cX11_digest 102 = .ok (.aload_n 0, 1) := by decide +kernel
theorem dX11_digest_103 : decode cX11_digest 103 = .ok (.invokevirtual 281, 3) := by decide +kernel
theorem dX11_digest_106 : decode cX11_digest 106 = .ok (.iconst 0, 1) := by decide +kernel
theorem dX11_digest_107 : decode cX11_digest 107 = .ok (.istore_n 1, 1) := by decide +kernel
theorem dX11_digest_108 : decode cX11_digest 108 = .ok (.iload_n 1, 1) := by decide +kernel
theorem dX11_digest_109 : decode cX11_digest 109 = .ok (.aload_n 0, 1) := by decide +kernel
theorem dX11_digest_110 : decode cX11_digest 110 = .ok (.getfield 222, 3) := by decide +kernel
theorem dX11_digest_113 : decode cX11_digest 113 = .ok (.if_icmp .ge 20, 3) := by decide +kernel
theorem dX11_digest_116 : decode cX11_digest 116 = .ok (.aload_n 0, 1) := by decide +kernel
theorem dX11_digest_117 : decode cX11_digest 117 = .ok (.aload_n 0, 1) := by decide +kernel
theorem dX11_digest_118 : decode cX11_digest 118 = .ok (.getfield 37, 3) := by decide +kernel
theorem dX11_digest_121 : decode cX11_digest 121 = .ok (.iload_n 1, 1) := by decide +kernel
theorem dX11_digest_122 : decode cX11_digest 122 = .ok (.iaload, 1) := by decide +kernel
theorem dX11_digest_123 : decode cX11_digest 123 = .ok (.i2l, 1) := by decide +kernel
theorem dX11_digest_124 : decode cX11_digest 124 = .ok (.invokevirtual 275, 3) := by decide +kernel
theorem dX11_digest_127 : decode cX11_digest 127 = .ok (.iinc 1 1, 3) := by decide +kernel
theorem dX11_digest_130 : decode cX11_digest 130 = .ok (.goto (-22), 3) := by decide +kernel
theorem dX11_digest_133 : decode cX11_digest 133 = .ok (.aload_n 0, 1) := by decide +kernel
theorem dX11_digest_134 : decode cX11_digest 134 = .ok (.aload_n 0, 1) := by decide +kernel
theorem dX11_digest_135 : decode cX11_digest 135 = .ok (.invokevirtual 243, 3) := by decide +kernel
theorem dX11_digest_138 : decode cX11_digest 138 = .ok (.i2l, 1) := by decide +kernel
theorem dX11_digest_139 : decode cX11_digest 139 = .ok (.invokevirtual 275, 3) := by decide +kernel
theorem dX11_digest_142 : decode cX11_digest 142 = .ok (.iconst 0, 1) := by decide +kernel
theorem dX11_digest_143 : decode cX11_digest 143 = .ok (.istore_n 1, 1) := by decide +kernel
theorem dX11_digest_144 : decode cX11_digest 144 = .ok (.iload_n 1, 1) := by decide +kernel
theorem dX11_digest_145 : decode cX11_digest 145 = .ok (.aload_n 0, 1) := by decide +kernel
theorem dX11_digest_146 : decode cX11_digest 146 = .ok (.getfield 65, 3) := by decide +kernel
theorem dX11_digest_149 : decode cX11_digest 149 = .ok (.if_icmp .ge 19, 3) := by decide +kernel
theorem dX11_digest_152 : decode cX11_digest 152 = .ok (.aload_n 0, 1) := by decide +kernel
theorem dX11_digest_153 : decode cX11_digest 153 = .ok (.aload_n 0, 1) := by decide +kernel
theorem dX11_digest_154 : decode cX11_digest 154 = .ok (.iload_n 1, 1) := by decide +kernel
theorem dX11_digest_155 : decode cX11_digest 155 = .ok (.invokevirtual 246, 3) := by decide +kernel
theorem dX11_digest_158 : decode cX11_digest 158 = .ok (.i2l, 1) := by decide +kernel
theorem dX11_digest_159 : decode cX11_digest 159 = .ok (.invokevirtual 275, 3) := by decide +kernel
theorem dX11_digest_162 : decode cX11_digest 162 = .ok (.iinc 1 1, 3) := by decide +kernel
theorem dX11_digest_165 : decode cX11_digest 165 = .ok (.goto (-21), 3) := by decide +kernel
theorem dX11_digest_168 : decode cX11_digest 168 = .ok (.iconst 0, 1) := by decide +kernel
theorem dX11_digest_169 : decode cX11_digest 169 = .ok (.istore_n 1, 1) := by decide +kernel
theorem dX11_digest_170 : decode cX11_digest 170 = .ok (.iload_n 1, 1) := by decide +kernel
theorem dX11_digest_171 : decode cX11_digest 171 = .ok (.aload_n 0, 1) := by decide +kernel
theorem dX11_digest_172 : decode cX11_digest 172 = .ok (.getfield 87, 3) := by decide +kernel
theorem dX11_digest_175 : decode cX11_digest 175 = .ok (.if_icmp .ge 20, 3) := by decide +kernel
theorem dX11_digest_178 : decode cX11_digest 178 = .ok (.aload_n 0, 1) := by decide +kernel
theorem dX11_digest_179 : decode cX11_digest 179 = .ok (.aload_n 0, 1) := by decide +kernel
theorem dX11_digest_180 : decode cX11_digest 180 = .ok (.getfield 16, 3) := by decide +kernel
theorem dX11_digest_183 : decode cX11_digest 183 = .ok (.iload_n 1, 1) := by decide +kernel
theorem dX11_digest_184 : decode cX11_digest 184 = .ok (.iaload, 1) := by decide +kernel
theorem dX11_digest_185 : decode cX11_digest 185 = .ok (.i2l, 1) := by decide +kernel
theorem dX11_digest_186 : decode cX11_digest 186 = .ok (.invokevirtual 275, 3) := by decide +kernel
theorem dX11_digest_189 : decode cX11_digest 189 = .ok (.iinc 1 1, 3) := by decide +kernel
theorem dX11_digest_192 : decode cX11_digest 192 = .ok (.goto (-22), 3) := by decide +kernel
theorem dX11_digest_195 : decode cX11_digest 195 = .ok (.iconst 0, 1) := by decide +kernel
theorem dX11_digest_196 : decode cX11_digest 196 = .ok (.istore_n 1, 1) := by decide +kernel
theorem dX11_digest_197 : decode cX11_digest 197 = .ok (.iload_n 1, 1) := by decide +kernel
theorem dX11_digest_198 : decode cX11_digest 198 = .ok (.bipush 9, 2) := by decide +kernel
theorem dX11_digest_200 : decode cX11_digest 200 = .ok (.if_icmp .ge 19, 3) := by decide +kernel
theorem dX11_digest_203 : decode cX11_digest 203 = .ok (.aload_n 0, 1) := by decide +kernel
theorem dX11_digest_204 : decode cX11_digest 204 = .ok (.aload_n 0, 1) := by decide +kernel
theorem dX11_digest_205 : decode cX11_digest 205 = .ok (.iload_n 1, 1) := by decide +kernel
theorem dX11_digest_206 : decode cX11_digest 206 = .ok (.invokevirtual 266, 3) := by decide +kernel
theorem dX11_digest_209 : decode cX11_digest 209 = .ok (.i2l, 1) := by decide +kernel
theorem dX11_digest_210 : decode cX11_digest 210 = .ok (.invokevirtual 275, 3) := by decide +kernel
theorem dX11_digest_213 : decode cX11_digest 213 = .ok (.iinc 1 1, 3) := by decide +kernel
theorem dX11_digest_216 : decode cX11_digest 216 = .ok (.goto (-19), 3) := by decide +kernel
theorem dX11_digest_219 : decode cX11_digest 219 = .ok (.aload_n 0, 1) := by decide +kernel
theorem dX11_digest_220 : decode cX11_digest 220 = .ok (.getfield 271, 3) := by decide +kernel
theorem dX11_digest_223 : decode cX11_digest 223 = .ok (.lreturn, 1) := by decide +kernel
theorem dJ6_bitCount_0f7a4_0 : decode cJ6_bitCount_0f7a4 0 = .ok (.iload_n 0, 1) := by decide +kernel
theorem dJ6_bitCount_0f7a4_1 : decode cJ6_bitCount_0f7a4 1 = .ok (.iload_n 0, 1) := by decide +kernel
theorem dJ6_bitCount_0f7a4_2 : decode cJ6_bitCount_0f7a4 2 = .ok (.iconst 1, 1) := by decide +kernel
theorem dJ6_bitCount_0f7a4_3 : decode cJ6_bitCount_0f7a4 3 = .ok (.iushr, 1) := by decide +kernel
theorem dJ6_bitCount_0f7a4_4 : decode cJ6_bitCount_0f7a4 4 = .ok (.ldc_w 265, 3) := by decide +kernel
theorem dJ6_bitCount_0f7a4_7 : decode cJ6_bitCount_0f7a4 7 = .ok (.iand, 1) := by decide +kernel
theorem dJ6_bitCount_0f7a4_8 : decode cJ6_bitCount_0f7a4 8 = .ok (.isub, 1) := by decide +kernel
theorem dJ6_bitCount_0f7a4_9 : decode cJ6_bitCount_0f7a4 9 = .ok (.istore_n 0, 1) := by decide +kernel
theorem dJ6_bitCount_0f7a4_10 : decode cJ6_bitCount_0f7a4 10 = .ok (.iload_n 0, 1) := by decide +kernel
theorem dJ6_bitCount_0f7a4_11 : decode cJ6_bitCount_0f7a4 11 = .ok (.ldc_w 266, 3) := by decide +kernel
theorem dJ6_bitCount_0f7a4_14 : decode cJ6_bitCount_0f7a4 14 = .ok (.iand, 1) := by decide +kernel
theorem dJ6_bitCount_0f7a4_15 : decode cJ6_bitCount_0f7a4 15 = .ok (.iload_n 0, 1) := by decide +kernel
theorem dJ6_bitCount_0f7a4_16 : decode cJ6_bitCount_0f7a4 16 = .ok (.iconst 2, 1) := by decide +kernel
theorem dJ6_bitCount_0f7a4_17 : decode cJ6_bitCount_0f7a4 17 = .ok (.iushr, 1) := by decide +kernel
theorem dJ6_bitCount_0f7a4_18 : decode cJ6_bitCount_0f7a4 18 = .ok (.ldc_w 266, 3) := by decide +kernel
theorem dJ6_bitCount_0f7a4_21 : decode cJ6_bitCount_0f7a4 21 = .ok (.iand, 1) := by decide +kernel
theorem dJ6_bitCount_0f7a4_22 : decode cJ6_bitCount_0f7a4 22 = .ok (.iadd, 1) := by decide +kernel
theorem dJ6_bitCount_0f7a4_23 : decode cJ6_bitCount_0f7a4 23 = .ok (.istore_n 0, 1) := by decide +kernel
theorem dJ6_bitCount_0f7a4_24 : decode cJ6_bitCount_0f7a4 24 = .ok (.iload_n 0, 1) := by decide +kernel
theorem dJ6_bitCount_0f7a4_25 : decode cJ6_bitCount_0f7a4 25 = .ok (.iload_n 0, 1) := by decide +kernel
theorem dJ6_bitCount_0f7a4_26 : decode cJ6_bitCount_0f7a4 26 = .ok (.iconst 4, 1) := by decide +kernel
theorem dJ6_bitCount_0f7a4_27 : decode cJ6_bitCount_0f7a4 27 = .ok (.iushr, 1) := by decide +kernel
theorem dJ6_bitCount_0f7a4_28 : decode cJ6_bitCount_0f7a4 28 = .ok (.iadd, 1) := by decide +kernel
theorem dJ6_bitCount_0f7a4_29 : decode cJ6_bitCount_0f7a4 29 = .ok (.ldc_w 267, 3) := by decide +kernel
theorem dJ6_bitCount_0f7a4_32 : decode cJ6_bitCount_0f7a4 32 = .ok (.iand, 1) := by decide +kernel
theorem dJ6_bitCount_0f7a4_33 : decode cJ6_bitCount_0f7a4 33 = .ok (.istore_n 0, 1) := by decide +kernel
theorem dJ6_bitCount_0f7a4_34 : decode cJ6_bitCount_0f7a4 34 = .ok (.iload_n 0, 1) := by decide +kernel
theorem dJ6_bitCount_0f7a4_35 : decode cJ6_bitCount_0f7a4 35 = .ok (.iload_n 0, 1) := by decide +kernel
theorem dJ6_bitCount_0f7a4_36 : decode cJ6_bitCount_0f7a4 36 = .ok (.bipush 8, 2) := by decide +kernel
theorem dJ6_bitCount_0f7a4_38 : decode cJ6_bitCount_0f7a4 38 = .ok (.iushr, 1) := by decide +kernel
theorem dJ6_bitCount_0f7a4_39 : decode cJ6_bitCount_0f7a4 39 = .ok (.iadd, 1) := by decide +kernel
theorem dJ6_bitCount_0f7a4_40 : decode cJ6_bitCount_0f7a4 40 = .ok (.istore_n 0, 1) := by decide +kernel
theorem dJ6_bitCount_0f7a4_41 : decode cJ6_bitCount_0f7a4 41 = .ok (.iload_n 0, 1) := by decide +kernel
theorem dJ6_bitCount_0f7a4_42 : decode cJ6_bitCount_0f7a4 42 = .ok (.iload_n 0, 1) := by decide +kernel
theorem dJ6_bitCount_0f7a4_43 : decode cJ6_bitCount_0f7a4 43 = .ok (.bipush 16, 2) := by decide +kernel
theorem dJ6_bitCount_0f7a4_45 : decode cJ6_bitCount_0f7a4 45 = .ok (.iushr, 1) := by decide +kernel
theorem dJ6_bitCount_0f7a4_46 : decode cJ6_bitCount_0f7a4 46 = .ok (.iadd, 1) := by decide +kernel
theorem dJ6_bitCount_0f7a4_47 : decode cJ6_bitCount_0f7a4 47 = .ok (.istore_n 0, 1) := by decide +kernel
theorem dJ6_bitCount_0f7a4_48 : decode cJ6_bitCount_0f7a4 48 = .ok (.iload_n 0, 1) := by decide +kernel
theorem dJ6_bitCount_0f7a4_49 : decode cJ6_bitCount_0f7a4 49 = .ok (.bipush 63, 2) := by decide +kernel
theorem dJ6_bitCount_0f7a4_51 : decode cJ6_bitCount_0f7a4 51 = .ok (.iand, 1) := by decide +kernel
theorem dJ6_bitCount_0f7a4_52 : decode cJ6_bitCount_0f7a4 52 = .ok (.ireturn, 1) := by decide +kernel
theorem dJ9_min_7cf53_0 : decode cJ9_min_7cf53 0 = .ok (.iload_n 0, 1) := by decide +kernel
theorem dJ9_min_7cf53_1 : decode cJ9_min_7cf53 1 = .ok (.iload_n 1, 1) := by decide +kernel
theorem dJ9_min_7cf53_2 : decode cJ9_min_7cf53 2 = .ok (.if_icmp .gt 7, 3) := by decide +kernel
theorem dJ9_min_7cf53_5 : decode cJ9_min_7cf53 5 = .ok (.iload_n 0, 1) := by decide +kernel
theorem dJ9_min_7cf53_6 : decode cJ9_min_7cf53 6 = .ok (.goto 4, 3) := by decide +kernel
theorem dJ9_min_7cf53_9 : decode cJ9_min_7cf53 9 = .ok (.iload_n 1, 1) := by decide +kernel
theorem dJ9_min_7cf53_10 : decode cJ9_min_7cf53 10 = .ok (.ireturn, 1) := by decide +kernel
theorem dJ7_fill_53178_0 : decode cJ7_fill_53178 0 = .ok (.iconst 0, 1) := by decide +kernel
theorem dJ7_fill_53178_1 : decode cJ7_fill_53178 1 = .ok (.istore_n 2, 1) := by decide +kernel
theorem dJ7_fill_53178_2 : decode cJ7_fill_53178 2 = .ok (.aload_n 0, 1) := by decide +kernel
theorem dJ7_fill_53178_3 : decode cJ7_fill_53178 3 = .ok (.arraylength, 1) := by decide +kernel
theorem dJ7_fill_53178_4 : decode cJ7_fill_53178 4 = .ok (.istore_n 3, 1) := by decide +kernel
theorem dJ7_fill_53178_5 : decode cJ7_fill_53178 5 = .ok (.iload_n 2, 1) := by decide +kernel
theorem dJ7_fill_53178_6 : decode cJ7_fill_53178 6 = .ok (.iload_n 3, 1) := by decide +kernel
theorem dJ7_fill_53178_7 : decode cJ7_fill_53178 7 = .ok (.if_icmp .ge 13, 3) := by decide +kernel
theorem dJ7_fill_53178_10 : decode cJ7_fill_53178 10 = .ok (.aload_n 0, 1) := by decide +kernel
theorem dJ7_fill_53178_11 : decode cJ7_fill_53178 11 = .ok (.iload_n 2, 1) := by decide +kernel
theorem dJ7_fill_53178_12 : decode cJ7_fill_53178 12 = .ok (.iload_n 1, 1) := by decide +kernel
theorem dJ7_fill_53178_13 : decode cJ7_fill_53178 13 = .ok (.iastore, 1) := by decide +kernel
theorem dJ7_fill_53178_14 : decode cJ7_fill_53178 14 = .ok (.iinc 2 1, 3) := by decide +kernel
theorem dJ7_fill_53178_17 : decode cJ7_fill_53178 17 = .ok (.goto (-12), 3) := by decide +kernel
theorem dJ7_fill_53178_20 : decode cJ7_fill_53178 20 = .ok (.return_, 1) := by decide +kernel
theorem dL_law_0 : decode cL_law 0 = .ok (.new 7, 3) := by decide +kernel
theorem dL_law_3 : decode cL_law 3 = .ok (.dup, 1) := by decide +kernel
theorem dL_law_4 : decode cL_law 4 = .ok (.invokespecial 9, 3) := by decide +kernel
theorem dL_law_7 : decode cL_law 7 = .ok (.astore_n 1, 1) := by decide +kernel
theorem dL_law_8 : decode cL_law 8 = .ok (.new 10, 3) := by decide +kernel
theorem dL_law_11 : decode cL_law 11 = .ok (.dup, 1) := by decide +kernel
theorem dL_law_12 : decode cL_law 12 = .ok (.invokespecial 12, 3) := by decide +kernel
theorem dL_law_15 : decode cL_law 15 = .ok (.astore_n 2, 1) := by decide +kernel
theorem dL_law_16 : decode cL_law 16 = .ok (.iconst 0, 1) := by decide +kernel
theorem dL_law_17 : decode cL_law 17 = .ok (.istore_n 3, 1) := by decide +kernel
theorem dL_law_18 : decode cL_law 18 = .ok (.iload_n 3, 1) := by decide +kernel
theorem dL_law_19 : decode cL_law 19 = .ok (.aload_n 0, 1) := by decide +kernel
theorem dL_law_20 : decode cL_law 20 = .ok (.arraylength, 1) := by decide +kernel
theorem dL_law_21 : decode cL_law 21 = .ok (.iconst 5, 1) := by decide +kernel
theorem dL_law_22 : decode cL_law 22 = .ok (.isub, 1) := by decide +kernel
theorem dL_law_23 : decode cL_law 23 = .ok (.if_icmp .gt 1092, 3) := by decide +kernel
theorem dL_law_26 : decode cL_law 26 = .ok (.aload_n 0, 1) := by decide +kernel
theorem dL_law_27 : decode cL_law 27 = .ok (.iload_n 3, 1) := by decide +kernel
theorem dL_law_28 : decode cL_law 28 = .ok (.iaload, 1) := by decide +kernel
theorem dL_law_29 : decode cL_law 29 = .ok (.bipush 31, 2) := by decide +kernel
theorem dL_law_31 : decode cL_law 31 = .ok (.iand, 1) := by decide +kernel
theorem dL_law_32 : decode cL_law 32 = .ok (.tableswitch 1077 0 30 #[140, 183, 216, 269, 282, 295, 308, 341, 374, 407, 440, 453, 496, 550, 563, 596, 639, 672, 715, 758, 801, 824, 878, 901, 934, 947, 970, 1014, 1027, 1040, 1063], 140) := by decide +kernel
theorem dL_law_172 : decode cL_law 172 = .ok (.aload_n 1, 1) := by decide +kernel
theorem dL_law_173 : decode cL_law 173 = .ok (.aload_n 0, 1) := by decide +kernel
theorem dL_law_174 : decode cL_law 174 = .ok (.iload_n 3, 1) := by decide +kernel
theorem dL_law_175 : decode cL_law 175 = .ok (.iconst 1, 1) := by decide +kernel
theorem dL_law_176 : decode cL_law 176 = .ok (.iadd, 1) := by decide +kernel
theorem dL_law_177 : decode cL_law 177 = .ok (.iaload, 1) := by decide +kernel
theorem dL_law_178 : decode cL_law 178 = .ok (.aload_n 0, 1) := by decide +kernel
theorem dL_law_179 : decode cL_law 179 = .ok (.iload_n 3, 1) := by decide +kernel
theorem dL_law_180 : decode cL_law 180 = .ok (.iconst 2, 1) := by decide +kernel
theorem dL_law_181 : decode cL_law 181 = .ok (.iadd, 1) := by decide +kernel
theorem dL_law_182 : decode cL_law 182 = .ok (.iaload, 1) := by decide +kernel
theorem dL_law_183 : decode cL_law 183 = .ok (.aload_n 0, 1) := by decide +kernel
theorem dL_law_184 : decode cL_law 184 = .ok (.iload_n 3, 1) := by decide +kernel
theorem dL_law_185 : decode cL_law 185 = .ok (.iconst 3, 1) := by decide +kernel
theorem dL_law_186 : decode cL_law 186 = .ok (.iadd, 1) := by decide +kernel
theorem dL_law_187 : decode cL_law 187 = .ok (.iaload, 1) := by decide +kernel
theorem dL_law_188 : decode cL_law 188 = .ok (.invokevirtual 13, 3) := by decide +kernel
theorem dL_law_191 : decode cL_law 191 = .ok (.aload_n 2, 1) := by decide +kernel
theorem dL_law_192 : decode cL_law 192 = .ok (.aload_n 0, 1) := by decide +kernel
theorem dL_law_193 : decode cL_law 193 = .ok (.iload_n 3, 1) := by decide +kernel
theorem dL_law_194 : decode cL_law 194 = .ok (.iconst 1, 1) := by decide +kernel
theorem dL_law_195 : decode cL_law 195 = .ok (.iadd, 1) := by decide +kernel
theorem dL_law_196 : decode cL_law 196 = .ok (.iaload, 1) := by decide +kernel
theorem dL_law_197 : decode cL_law 197 = .ok (.aload_n 0, 1) := by decide +kernel
theorem dL_law_198 : decode cL_law 198 = .ok (.iload_n 3, 1) := by decide +kernel
theorem dL_law_199 : decode cL_law 199 = .ok (.iconst 2, 1) := by decide +kernel
theorem dL_law_200 : decode cL_law 200 = .ok (.iadd, 1) := by decide +kernel
theorem dL_law_201 : decode cL_law 201 = .ok (.iaload, 1) := by decide +kernel
theorem dL_law_202 : decode cL_law 202 = .ok (.aload_n 0, 1) := by decide +kernel
theorem dL_law_203 : decode cL_law 203 = .ok (.iload_n 3, 1) := by decide +kernel
theorem dL_law_204 : decode cL_law 204 = .ok (.iconst 3, 1) := by decide +kernel
theorem dL_law_205 : decode cL_law 205 = .ok (.iadd, 1) := by decide +kernel
theorem dL_law_206 : decode cL_law 206 = .ok (.iaload, 1) := by decide +kernel
theorem dL_law_207 : decode cL_law 207 = .ok (.invokevirtual 17, 3) := by decide +kernel
theorem dL_law_210 : decode cL_law 210 = .ok (.if_icmp .eq 899, 3) := by decide +kernel
theorem dL_law_213 : decode cL_law 213 = .ok (.iconst 0, 1) := by decide +kernel
theorem dL_law_214 : decode cL_law 214 = .ok (.ireturn, 1) := by decide +kernel
theorem dL_law_215 : decode cL_law 215 = .ok (.aload_n 1, 1) := by decide +kernel
theorem dL_law_216 : decode cL_law 216 = .ok (.aload_n 0, 1) := by decide +kernel
theorem dL_law_217 : decode cL_law 217 = .ok (.iload_n 3, 1) := by decide +kernel
theorem dL_law_218 : decode cL_law 218 = .ok (.iconst 1, 1) := by decide +kernel
theorem dL_law_219 : decode cL_law 219 = .ok (.iadd, 1) := by decide +kernel
theorem dL_law_220 : decode cL_law 220 = .ok (.iaload, 1) := by decide +kernel
theorem dL_law_221 : decode cL_law 221 = .ok (.aload_n 0, 1) := by decide +kernel
theorem dL_law_222 : decode cL_law 222 = .ok (.iload_n 3, 1) := by decide +kernel
theorem dL_law_223 : decode cL_law 223 = .ok (.iconst 2, 1) := by decide +kernel
theorem dL_law_224 : decode cL_law 224 = .ok (.iadd, 1) := by decide +kernel
theorem dL_law_225 : decode cL_law 225 = .ok (.iaload, 1) := by decide +kernel
theorem dL_law_226 : decode cL_law 226 = .ok (.invokevirtual 18, 3) := by decide +kernel
theorem dL_law_229 : decode cL_law 229 = .ok (.aload_n 2, 1) := by decide +kernel
theorem dL_law_230 : decode cL_law 230 = .ok (.aload_n 0, 1) := by decide +kernel
theorem dL_law_231 : decode cL_law 231 = .ok (.iload_n 3, 1) := by decide +kernel
theorem dL_law_232 : decode cL_law 232 = .ok (.iconst 1, 1) := by decide +kernel
theorem dL_law_233 : decode cL_law 233 = .ok (.iadd, 1) := by decide +kernel
theorem dL_law_234 : decode cL_law 234 = .ok (.iaload, 1) := by decide +kernel
theorem dL_law_235 : decode cL_law 235 = .ok (.aload_n 0, 1) := by decide +kernel
theorem dL_law_236 : decode cL_law 236 = .ok (.iload_n 3, 1) := by decide +kernel
theorem dL_law_237 : decode cL_law 237 = .ok (.iconst 2, 1) := by decide +kernel
theorem dL_law_238 : decode cL_law 238 = .ok (.iadd, 1) := by decide +kernel
theorem dL_law_239 : decode cL_law 239 = .ok (.iaload, 1) := by decide +kernel
theorem dL_law_240 : decode cL_law 240 = .ok (.invokevirtual 22, 3) := by decide +kernel
theorem dL_law_243 : decode cL_law 243 = .ok (.if_icmp .eq 866, 3) := by decide +kernel
theorem dL_law_246 : decode cL_law 246 = .ok (.iconst 0, 1) := by decide +kernel
theorem dL_law_247 : decode cL_law 247 = .ok (.ireturn, 1) := by decide +kernel
theorem dL_law_248 : decode cL_law 248 = .ok (.aload_n 1, 1) := by decide +kernel
theorem dL_law_249 : decode cL_law 249 = .ok (.aload_n 0, 1) := by decide +kernel
theorem dL_law_250 : decode cL_law 250 = .ok (.iload_n 3, 1) := by decide +kernel
theorem dL_law_251 : decode cL_law 251 = .ok (.iconst 1, 1) := by decide +kernel
theorem dL_law_252 : decode cL_law 252 = .ok (.iadd, 1) := by decide +kernel
theorem dL_law_253 : decode cL_law 253 = .ok (.iaload, 1) := by decide +kernel
theorem dL_law_254 : decode cL_law 254 = .ok (.i2l, 1) := by decide +kernel
theorem dL_law_255 : decode cL_law 255 = .ok (.bipush 32, 2) := by decide +kernel
theorem dL_law_257 : decode cL_law 257 = .ok (.lshl, 1) := by decide +kernel
theorem dL_law_258 : decode cL_law 258 = .ok (.aload_n 0, 1) := by decide +kernel
theorem dL_law_259 : decode cL_law 259 = .ok (.iload_n 3, 1) := by decide +kernel
theorem dL_law_260 : decode cL_law 260 = .ok (.iconst 2, 1) := by decide +kernel
theorem dL_law_261 : decode cL_law 261 = .ok (.iadd, 1) := by decide +kernel
theorem dL_law_262 : decode cL_law 262 = .ok (.iaload, 1) := by decide +kernel
theorem dL_law_263 : decode cL_law 263 = .ok (.i2l, 1) := by decide +kernel
theorem dL_law_264 : decode cL_law 264 = .ok (.ldc2_w 23, 3) := by decide +kernel
theorem dL_law_267 : decode cL_law 267 = .ok (.land, 1) := by decide +kernel
theorem dL_law_268 : decode cL_law 268 = .ok (.lor, 1) := by decide +kernel
theorem dL_law_269 : decode cL_law 269 = .ok (.invokevirtual 25, 3) := by decide +kernel
theorem dL_law_272 : decode cL_law 272 = .ok (.aload_n 2, 1) := by decide +kernel
theorem dL_law_273 : decode cL_law 273 = .ok (.aload_n 0, 1) := by decide +kernel
theorem dL_law_274 : decode cL_law 274 = .ok (.iload_n 3, 1) := by decide +kernel
theorem dL_law_275 : decode cL_law 275 = .ok (.iconst 1, 1) := by decide +kernel
theorem dL_law_276 : decode cL_law 276 = .ok (.iadd, 1) := by decide +kernel
theorem dL_law_277 : decode cL_law 277 = .ok (.iaload, 1) := by decide +kernel
theorem dL_law_278 : decode cL_law 278 = .ok (.i2l, 1) := by decide +kernel
theorem dL_law_279 : decode cL_law 279 = .ok (.bipush 32, 2) := by decide +kernel
theorem dL_law_281 : decode cL_law 281 = .ok (.lshl, 1) := by decide +kernel
theorem dL_law_282 : decode cL_law 282 = .ok (.aload_n 0, 1) := by decide +kernel
theorem dL_law_283 : decode cL_law 283 = .ok (.iload_n 3, 1) := by decide +kernel
theorem dL_law_284 : decode cL_law 284 = .ok (.iconst 2, 1) := by decide +kernel
theorem dL_law_285 : decode cL_law 285 = .ok (.iadd, 1) := by decide +kernel
theorem dL_law_286 : decode cL_law 286 = .ok (.iaload, 1) := by decide +kernel
theorem dL_law_287 : decode cL_law 287 = .ok (.i2l, 1) := by decide +kernel
theorem dL_law_288 : decode cL_law 288 = .ok (.ldc2_w 23, 3) := by decide +kernel
theorem dL_law_291 : decode cL_law 291 = .ok (.land, 1) := by decide +kernel
theorem dL_law_292 : decode cL_law 292 = .ok (.lor, 1) := by decide +kernel
theorem dL_law_293 : decode cL_law 293 = .ok (.invokevirtual 29, 3) := by decide +kernel
theorem dL_law_296 : decode cL_law 296 = .ok (.if_icmp .eq 813, 3) := by decide +kernel
theorem dL_law_299 : decode cL_law 299 = .ok (.iconst 0, 1) := by decide +kernel
theorem dL_law_300 : decode cL_law 300 = .ok (.ireturn, 1) := by decide +kernel
theorem dL_law_301 : decode cL_law 301 = .ok (.aload_n 1, 1) := by decide +kernel
theorem dL_law_302 : decode cL_law 302 = .ok (.invokevirtual 30, 3) := by decide +kernel
theorem dL_law_305 : decode cL_law 305 = .ok (.aload_n 2, 1) := by decide +kernel
theorem dL_law_306 : decode cL_law 306 = .ok (.invokevirtual 34, 3) := by decide +kernel
theorem dL_law_309 : decode cL_law 309 = .ok (.if_icmp .eq 800, 3) := by decide +kernel
theorem dL_law_312 : decode cL_law 312 = .ok (.iconst 0, 1) := by decide +kernel
theorem dL_law_313 : decode cL_law 313 = .ok (.ireturn, 1) := by decide +kernel
theorem dL_law_314 : decode cL_law 314 = .ok (.aload_n 1, 1) := by decide +kernel
theorem dL_law_315 : decode cL_law 315 = .ok (.invokevirtual 35, 3) := by decide +kernel
theorem dL_law_318 : decode cL_law 318 = .ok (.aload_n 2, 1) := by decide +kernel
theorem dL_law_319 : decode cL_law 319 = .ok (.invokevirtual 38, 3) := by decide +kernel
theorem dL_law_322 : decode cL_law 322 = .ok (.if_icmp .eq 787, 3) := by decide +kernel
theorem dL_law_325 : decode cL_law 325 = .ok (.iconst 0, 1) := by decide +kernel
theorem dL_law_326 : decode cL_law 326 = .ok (.ireturn, 1) := by decide +kernel
theorem dL_law_327 : decode cL_law 327 = .ok (.aload_n 1, 1) := by decide +kernel
theorem dL_law_328 : decode cL_law 328 = .ok (.invokevirtual 39, 3) := by decide +kernel
theorem dL_law_331 : decode cL_law 331 = .ok (.aload_n 2, 1) := by decide +kernel
theorem dL_law_332 : decode cL_law 332 = .ok (.invokevirtual 42, 3) := by decide +kernel
theorem dL_law_335 : decode cL_law 335 = .ok (.if_icmp .eq 774, 3) := by decide +kernel
theorem dL_law_338 : decode cL_law 338 = .ok (.iconst 0, 1) := by decide +kernel
theorem dL_law_339 : decode cL_law 339 = .ok (.ireturn, 1) := by decide +kernel
theorem dL_law_340 : decode cL_law 340 = .ok (.aload_n 1, 1) := by decide +kernel
theorem dL_law_341 : decode cL_law 341 = .ok (.aload_n 0, 1) := by decide +kernel
theorem dL_law_342 : decode cL_law 342 = .ok (.iload_n 3, 1) := by decide +kernel
theorem dL_law_343 : decode cL_law 343 = .ok (.iconst 1, 1) := by decide +kernel
theorem dL_law_344 : decode cL_law 344 = .ok (.iadd, 1) := by decide +kernel
theorem dL_law_345 : decode cL_law 345 = .ok (.iaload, 1) := by decide +kernel
theorem dL_law_346 : decode cL_law 346 = .ok (.aload_n 0, 1) := by decide +kernel
theorem dL_law_347 : decode cL_law 347 = .ok (.iload_n 3, 1) := by decide +kernel
theorem dL_law_348 : decode cL_law 348 = .ok (.iconst 2, 1) := by decide +kernel
theorem dL_law_349 : decode cL_law 349 = .ok (.iadd, 1) := by decide +kernel
theorem dL_law_350 : decode cL_law 350 = .ok (.iaload, 1) := by decide +kernel
theorem dL_law_351 : decode cL_law 351 = .ok (.invokevirtual 43, 3) := by decide +kernel
theorem dL_law_354 : decode cL_law 354 = .ok (.aload_n 2, 1) := by decide +kernel
theorem dL_law_355 : decode cL_law 355 = .ok (.aload_n 0, 1) := by decide +kernel
theorem dL_law_356 : decode cL_law 356 = .ok (.iload_n 3, 1) := by decide +kernel
theorem dL_law_357 : decode cL_law 357 = .ok (.iconst 1, 1) := by decide +kernel
theorem dL_law_358 : decode cL_law 358 = .ok (.iadd, 1) := by decide +kernel
theorem dL_law_359 : decode cL_law 359 = .ok (.iaload, 1) := by decide +kernel
theorem dL_law_360 : decode cL_law 360 = .ok (.aload_n 0, 1) := by decide +kernel
theorem dL_law_361 : decode cL_law 361 = .ok (.iload_n 3, 1) := by decide +kernel
theorem dL_law_362 : decode cL_law 362 = .ok (.iconst 2, 1) := by decide +kernel
theorem dL_law_363 : decode cL_law 363 = .ok (.iadd, 1) := by decide +kernel
theorem dL_law_364 : decode cL_law 364 = .ok (.iaload, 1) := by decide +kernel
theorem dL_law_365 : decode cL_law 365 = .ok (.invokevirtual 46, 3) := by decide +kernel
theorem dL_law_368 : decode cL_law 368 = .ok (.if_icmp .eq 741, 3) := by decide +kernel
theorem dL_law_371 : decode cL_law 371 = .ok (.iconst 0, 1) := by decide +kernel
theorem dL_law_372 : decode cL_law 372 = .ok (.ireturn, 1) := by decide +kernel
theorem dL_law_373 : decode cL_law 373 = .ok (.aload_n 1, 1) := by decide +kernel
theorem dL_law_374 : decode cL_law 374 = .ok (.aload_n 0, 1) := by decide +kernel
theorem dL_law_375 : decode cL_law 375 = .ok (.iload_n 3, 1) := by decide +kernel
theorem dL_law_376 : decode cL_law 376 = .ok (.iconst 1, 1) := by decide +kernel
theorem dL_law_377 : decode cL_law 377 = .ok (.iadd, 1) := by decide +kernel
theorem dL_law_378 : decode cL_law 378 = .ok (.iaload, 1) := by decide +kernel
theorem dL_law_379 : decode cL_law 379 = .ok (.aload_n 0, 1) := by decide +kernel
theorem dL_law_380 : decode cL_law 380 = .ok (.iload_n 3, 1) := by decide +kernel
theorem dL_law_381 : decode cL_law 381 = .ok (.iconst 2, 1) := by decide +kernel
theorem dL_law_382 : decode cL_law 382 = .ok (.iadd, 1) := by decide +kernel
theorem dL_law_383 : decode cL_law 383 = .ok (.iaload, 1) := by decide +kernel
theorem dL_law_384 : decode cL_law 384 = .ok (.invokevirtual 47, 3) := by decide +kernel
theorem dL_law_387 : decode cL_law 387 = .ok (.aload_n 2, 1) := by decide +kernel
theorem dL_law_388 : decode cL_law 388 = .ok (.aload_n 0, 1) := by decide +kernel
theorem dL_law_389 : decode cL_law 389 = .ok (.iload_n 3, 1) := by decide +kernel
theorem dL_law_390 : decode cL_law 390 = .ok (.iconst 1, 1) := by decide +kernel
theorem dL_law_391 : decode cL_law 391 = .ok (.iadd, 1) := by decide +kernel
theorem dL_law_392 : decode cL_law 392 = .ok (.iaload, 1) := by decide +kernel
theorem dL_law_393 : decode cL_law 393 = .ok (.aload_n 0, 1) := by decide +kernel
theorem dL_law_394 : decode cL_law 394 = .ok (.iload_n 3, 1) := by decide +kernel
theorem dL_law_395 : decode cL_law 395 = .ok (.iconst 2, 1) := by decide +kernel
theorem dL_law_396 : decode cL_law 396 = .ok (.iadd, 1) := by decide +kernel
theorem dL_law_397 : decode cL_law 397 = .ok (.iaload, 1) := by decide +kernel
theorem dL_law_398 : decode cL_law 398 = .ok (.invokevirtual 50, 3) := by decide +kernel
theorem dL_law_401 : decode cL_law 401 = .ok (.if_icmp .eq 708, 3) := by decide +kernel
theorem dL_law_404 : decode cL_law 404 = .ok (.iconst 0, 1) := by decide +kernel
theorem dL_law_405 : decode cL_law 405 = .ok (.ireturn, 1) := by decide +kernel
theorem dL_law_406 : decode cL_law 406 = .ok (.aload_n 1, 1) := by decide +kernel
theorem dL_law_407 : decode cL_law 407 = .ok (.aload_n 0, 1) := by decide +kernel
theorem dL_law_408 : decode cL_law 408 = .ok (.iload_n 3, 1) := by decide +kernel
theorem dL_law_409 : decode cL_law 409 = .ok (.iconst 1, 1) := by decide +kernel
theorem dL_law_410 : decode cL_law 410 = .ok (.iadd, 1) := by decide +kernel
theorem dL_law_411 : decode cL_law 411 = .ok (.iaload, 1) := by decide +kernel
theorem dL_law_412 : decode cL_law 412 = .ok (.aload_n 0, 1) := by decide +kernel
theorem dL_law_413 : decode cL_law 413 = .ok (.iload_n 3, 1) := by decide +kernel
theorem dL_law_414 : decode cL_law 414 = .ok (.iconst 2, 1) := by decide +kernel
theorem dL_law_415 : decode cL_law 415 = .ok (.iadd, 1) := by decide +kernel
theorem dL_law_416 : decode cL_law 416 = .ok (.iaload, 1) := by decide +kernel
theorem dL_law_417 : decode cL_law 417 = .ok (.invokevirtual 51, 3) := by decide +kernel
theorem dL_law_420 : decode cL_law 420 = .ok (.aload_n 2, 1) := by decide +kernel
theorem dL_law_421 : decode cL_law 421 = .ok (.aload_n 0, 1) := by decide +kernel
theorem dL_law_422 : decode cL_law 422 = .ok (.iload_n 3, 1) := by decide +kernel
theorem dL_law_423 : decode cL_law 423 = .ok (.iconst 1, 1) := by decide +kernel
theorem dL_law_424 : decode cL_law 424 = .ok (.iadd, 1) := by decide +kernel
theorem dL_law_425 : decode cL_law 425 = .ok (.iaload, 1) := by decide +kernel
theorem dL_law_426 : decode cL_law 426 = .ok (.aload_n 0, 1) := by decide +kernel
theorem dL_law_427 : decode cL_law 427 = .ok (.iload_n 3, 1) := by decide +kernel
theorem dL_law_428 : decode cL_law 428 = .ok (.iconst 2, 1) := by decide +kernel
theorem dL_law_429 : decode cL_law 429 = .ok (.iadd, 1) := by decide +kernel
theorem dL_law_430 : decode cL_law 430 = .ok (.iaload, 1) := by decide +kernel
theorem dL_law_431 : decode cL_law 431 = .ok (.invokevirtual 54, 3) := by decide +kernel
theorem dL_law_434 : decode cL_law 434 = .ok (.if_icmp .eq 675, 3) := by decide +kernel
theorem dL_law_437 : decode cL_law 437 = .ok (.iconst 0, 1) := by decide +kernel
theorem dL_law_438 : decode cL_law 438 = .ok (.ireturn, 1) := by decide +kernel
theorem dL_law_439 : decode cL_law 439 = .ok (.aload_n 1, 1) := by decide +kernel
theorem dL_law_440 : decode cL_law 440 = .ok (.aload_n 0, 1) := by decide +kernel
theorem dL_law_441 : decode cL_law 441 = .ok (.iload_n 3, 1) := by decide +kernel
theorem dL_law_442 : decode cL_law 442 = .ok (.iconst 1, 1) := by decide +kernel
theorem dL_law_443 : decode cL_law 443 = .ok (.iadd, 1) := by decide +kernel
theorem dL_law_444 : decode cL_law 444 = .ok (.iaload, 1) := by decide +kernel
theorem dL_law_445 : decode cL_law 445 = .ok (.aload_n 0, 1) := by decide +kernel
theorem dL_law_446 : decode cL_law 446 = .ok (.iload_n 3, 1) := by decide +kernel
theorem dL_law_447 : decode cL_law 447 = .ok (.iconst 2, 1) := by decide +kernel
theorem dL_law_448 : decode cL_law 448 = .ok (.iadd, 1) := by decide +kernel
theorem dL_law_449 : decode cL_law 449 = .ok (.iaload, 1) := by decide +kernel
theorem dL_law_450 : decode cL_law 450 = .ok (.invokevirtual 55, 3) := by decide +kernel
theorem dL_law_453 : decode cL_law 453 = .ok (.aload_n 2, 1) := by decide +kernel
theorem dL_law_454 : decode cL_law 454 = .ok (.aload_n 0, 1) := by decide +kernel
theorem dL_law_455 : decode cL_law 455 = .ok (.iload_n 3, 1) := by decide +kernel
theorem dL_law_456 : decode cL_law 456 = .ok (.iconst 1, 1) := by decide +kernel
theorem dL_law_457 : decode cL_law 457 = .ok (.iadd, 1) := by decide +kernel
theorem dL_law_458 : decode cL_law 458 = .ok (.iaload, 1) := by decide +kernel
theorem dL_law_459 : decode cL_law 459 = .ok (.aload_n 0, 1) := by decide +kernel
theorem dL_law_460 : decode cL_law 460 = .ok (.iload_n 3, 1) := by decide +kernel
theorem dL_law_461 : decode cL_law 461 = .ok (.iconst 2, 1) := by decide +kernel
theorem dL_law_462 : decode cL_law 462 = .ok (.iadd, 1) := by decide +kernel
theorem dL_law_463 : decode cL_law 463 = .ok (.iaload, 1) := by decide +kernel
theorem dL_law_464 : decode cL_law 464 = .ok (.invokevirtual 58, 3) := by decide +kernel
theorem dL_law_467 : decode cL_law 467 = .ok (.if_icmp .eq 642, 3) := by decide +kernel
theorem dL_law_470 : decode cL_law 470 = .ok (.iconst 0, 1) := by decide +kernel
theorem dL_law_471 : decode cL_law 471 = .ok (.ireturn, 1) := by decide +kernel
theorem dL_law_472 : decode cL_law 472 = .ok (.aload_n 1, 1) := by decide +kernel
theorem dL_law_473 : decode cL_law 473 = .ok (.invokevirtual 59, 3) := by decide +kernel
theorem dL_law_476 : decode cL_law 476 = .ok (.aload_n 2, 1) := by decide +kernel
theorem dL_law_477 : decode cL_law 477 = .ok (.invokevirtual 62, 3) := by decide +kernel
theorem dL_law_480 : decode cL_law 480 = .ok (.if_icmp .eq 629, 3) := by decide +kernel
theorem dL_law_483 : decode cL_law 483 = .ok (.iconst 0, 1) := by decide +kernel
theorem dL_law_484 : decode cL_law 484 = .ok (.ireturn, 1) := by decide +kernel
theorem dL_law_485 : decode cL_law 485 = .ok (.aload_n 1, 1) := by decide +kernel
theorem dL_law_486 : decode cL_law 486 = .ok (.aload_n 0, 1) := by decide +kernel
theorem dL_law_487 : decode cL_law 487 = .ok (.iload_n 3, 1) := by decide +kernel
theorem dL_law_488 : decode cL_law 488 = .ok (.iconst 1, 1) := by decide +kernel
theorem dL_law_489 : decode cL_law 489 = .ok (.iadd, 1) := by decide +kernel
theorem dL_law_490 : decode cL_law 490 = .ok (.iaload, 1) := by decide +kernel
theorem dL_law_491 : decode cL_law 491 = .ok (.aload_n 0, 1) := by decide +kernel
theorem dL_law_492 : decode cL_law 492 = .ok (.iload_n 3, 1) := by decide +kernel
theorem dL_law_493 : decode cL_law 493 = .ok (.iconst 2, 1) := by decide +kernel
theorem dL_law_494 : decode cL_law 494 = .ok (.iadd, 1) := by decide +kernel
theorem dL_law_495 : decode cL_law 495 = .ok (.iaload, 1) := by decide +kernel
theorem dL_law_496 : decode cL_law 496 = .ok (.aload_n 0, 1) := by decide +kernel
theorem dL_law_497 : decode cL_law 497 = .ok (.iload_n 3, 1) := by decide +kernel
theorem dL_law_498 : decode cL_law 498 = .ok (.iconst 3, 1) := by decide +kernel
theorem dL_law_499 : decode cL_law 499 = .ok (.iadd, 1) := by decide +kernel
theorem dL_law_500 : decode cL_law 500 = .ok (.iaload, 1) := by decide +kernel
theorem dL_law_501 : decode cL_law 501 = .ok (.invokevirtual 63, 3) := by decide +kernel
theorem dL_law_504 : decode cL_law 504 = .ok (.aload_n 2, 1) := by decide +kernel
theorem dL_law_505 : decode cL_law 505 = .ok (.aload_n 0, 1) := by decide +kernel
theorem dL_law_506 : decode cL_law 506 = .ok (.iload_n 3, 1) := by decide +kernel
theorem dL_law_507 : decode cL_law 507 = .ok (.iconst 1, 1) := by decide +kernel
theorem dL_law_508 : decode cL_law 508 = .ok (.iadd, 1) := by decide +kernel
theorem dL_law_509 : decode cL_law 509 = .ok (.iaload, 1) := by decide +kernel
end
section
theorem dL_law_510 : decode cL_law 510 = .ok (.aload_n 0, 1) := by decide +kernel
theorem dL_law_511 : decode cL_law 511 = .ok (.iload_n 3, 1) := by decide +kernel
theorem dL_law_512 : decode cL_law 512 = .ok (.iconst 2, 1) := by decide +kernel
theorem dL_law_513 : decode cL_law 513 = .ok (.iadd, 1) := by decide +kernel
theorem dL_law_514 : decode cL_law 514 = .ok (.iaload, 1) := by decide +kernel
theorem dL_law_515 : decode cL_law 515 = .ok (.aload_n 0, 1) := by decide +kernel
theorem dL_law_516 : decode cL_law 516 = .ok (.iload_n 3, 1) := by decide +kernel
theorem dL_law_517 : decode cL_law 517 = .ok (.iconst 3, 1) := by decide +kernel
theorem dL_law_518 : decode cL_law 518 = .ok (.iadd, 1) := by decide +kernel
theorem dL_law_519 : decode cL_law 519 = .ok (.iaload, 1) := by decide +kernel
theorem dL_law_520 : decode cL_law 520 = .ok (.invokevirtual 66, 3) := by decide +kernel
theorem dL_law_523 : decode cL_law 523 = .ok (.if_icmp .eq 586, 3) := by decide +kernel
theorem dL_law_526 : decode cL_law 526 = .ok (.iconst 0, 1) := by decide +kernel
theorem dL_law_527 : decode cL_law 527 = .ok (.ireturn, 1) := by decide +kernel
theorem dL_law_528 : decode cL_law 528 = .ok (.aload_n 1, 1) := by decide +kernel
theorem dL_law_529 : decode cL_law 529 = .ok (.aload_n 0, 1) := by decide +kernel
theorem dL_law_530 : decode cL_law 530 = .ok (.iload_n 3, 1) := by decide +kernel
theorem dL_law_531 : decode cL_law 531 = .ok (.iconst 1, 1) := by decide +kernel
theorem dL_law_532 : decode cL_law 532 = .ok (.iadd, 1) := by decide +kernel
theorem dL_law_533 : decode cL_law 533 = .ok (.iaload, 1) := by decide +kernel
theorem dL_law_534 : decode cL_law 534 = .ok (.aload_n 0, 1) := by decide +kernel
theorem dL_law_535 : decode cL_law 535 = .ok (.iload_n 3, 1) := by decide +kernel
theorem dL_law_536 : decode cL_law 536 = .ok (.iconst 2, 1) := by decide +kernel
theorem dL_law_537 : decode cL_law 537 = .ok (.iadd, 1) := by decide +kernel
theorem dL_law_538 : decode cL_law 538 = .ok (.iaload, 1) := by decide +kernel
theorem dL_law_539 : decode cL_law 539 = .ok (.aload_n 0, 1) := by decide +kernel
theorem dL_law_540 : decode cL_law 540 = .ok (.iload_n 3, 1) := by decide +kernel
theorem dL_law_541 : decode cL_law 541 = .ok (.iconst 3, 1) := by decide +kernel
theorem dL_law_542 : decode cL_law 542 = .ok (.iadd, 1) := by decide +kernel
theorem dL_law_543 : decode cL_law 543 = .ok (.iaload, 1) := by decide +kernel
theorem dL_law_544 : decode cL_law 544 = .ok (.aload_n 0, 1) := by decide +kernel
theorem dL_law_545 : decode cL_law 545 = .ok (.iload_n 3, 1) := by decide +kernel
theorem dL_law_546 : decode cL_law 546 = .ok (.iconst 4, 1) := by decide +kernel
theorem dL_law_547 : decode cL_law 547 = .ok (.iadd, 1) := by decide +kernel
theorem dL_law_548 : decode cL_law 548 = .ok (.iaload, 1) := by decide +kernel
theorem dL_law_549 : decode cL_law 549 = .ok (.invokevirtual 67, 3) := by decide +kernel
theorem dL_law_552 : decode cL_law 552 = .ok (.aload_n 2, 1) := by decide +kernel
theorem dL_law_553 : decode cL_law 553 = .ok (.aload_n 0, 1) := by decide +kernel
theorem dL_law_554 : decode cL_law 554 = .ok (.iload_n 3, 1) := by decide +kernel
theorem dL_law_555 : decode cL_law 555 = .ok (.iconst 1, 1) := by decide +kernel
theorem dL_law_556 : decode cL_law 556 = .ok (.iadd, 1) := by decide +kernel
theorem dL_law_557 : decode cL_law 557 = .ok (.iaload, 1) := by decide +kernel
theorem dL_law_558 : decode cL_law 558 = .ok (.aload_n 0, 1) := by decide +kernel
theorem dL_law_559 : decode cL_law 559 = .ok (.iload_n 3, 1) := by decide +kernel
theorem dL_law_560 : decode cL_law 560 = .ok (.iconst 2, 1) := by decide +kernel
theorem dL_law_561 : decode cL_law 561 = .ok (.iadd, 1) := by decide +kernel
theorem dL_law_562 : decode cL_law 562 = .ok (.iaload, 1) := by decide +kernel
theorem dL_law_563 : decode cL_law 563 = .ok (.aload_n 0, 1) := by decide +kernel
theorem dL_law_564 : decode cL_law 564 = .ok (.iload_n 3, 1) := by decide +kernel
theorem dL_law_565 : decode cL_law 565 = .ok (.iconst 3, 1) := by decide +kernel
theorem dL_law_566 : decode cL_law 566 = .ok (.iadd, 1) := by decide +kernel
theorem dL_law_567 : decode cL_law 567 = .ok (.iaload, 1) := by decide +kernel
theorem dL_law_568 : decode cL_law 568 = .ok (.aload_n 0, 1) := by decide +kernel
theorem dL_law_569 : decode cL_law 569 = .ok (.iload_n 3, 1) := by decide +kernel
theorem dL_law_570 : decode cL_law 570 = .ok (.iconst 4, 1) := by decide +kernel
theorem dL_law_571 : decode cL_law 571 = .ok (.iadd, 1) := by decide +kernel
theorem dL_law_572 : decode cL_law 572 = .ok (.iaload, 1) := by decide +kernel
theorem dL_law_573 : decode cL_law 573 = .ok (.invokevirtual 71, 3) := by decide +kernel
theorem dL_law_576 : decode cL_law 576 = .ok (.lcmp, 1) := by decide +kernel
theorem dL_law_577 : decode cL_law 577 = .ok (.ifCond .eq 532, 3) := by decide +kernel
theorem dL_law_580 : decode cL_law 580 = .ok (.iconst 0, 1) := by decide +kernel
theorem dL_law_581 : decode cL_law 581 = .ok (.ireturn, 1) := by decide +kernel
theorem dL_law_582 : decode cL_law 582 = .ok (.aload_n 1, 1) := by decide +kernel
theorem dL_law_583 : decode cL_law 583 = .ok (.invokevirtual 72, 3) := by decide +kernel
theorem dL_law_586 : decode cL_law 586 = .ok (.aload_n 2, 1) := by decide +kernel
theorem dL_law_587 : decode cL_law 587 = .ok (.invokevirtual 75, 3) := by decide +kernel
theorem dL_law_590 : decode cL_law 590 = .ok (.if_icmp .eq 519, 3) := by decide +kernel
theorem dL_law_593 : decode cL_law 593 = .ok (.iconst 0, 1) := by decide +kernel
theorem dL_law_594 : decode cL_law 594 = .ok (.ireturn, 1) := by decide +kernel
theorem dL_law_595 : decode cL_law 595 = .ok (.aload_n 1, 1) := by decide +kernel
theorem dL_law_596 : decode cL_law 596 = .ok (.aload_n 0, 1) := by decide +kernel
theorem dL_law_597 : decode cL_law 597 = .ok (.iload_n 3, 1) := by decide +kernel
theorem dL_law_598 : decode cL_law 598 = .ok (.iconst 1, 1) := by decide +kernel
theorem dL_law_599 : decode cL_law 599 = .ok (.iadd, 1) := by decide +kernel
theorem dL_law_600 : decode cL_law 600 = .ok (.iaload, 1) := by decide +kernel
theorem dL_law_601 : decode cL_law 601 = .ok (.aload_n 0, 1) := by decide +kernel
theorem dL_law_602 : decode cL_law 602 = .ok (.iload_n 3, 1) := by decide +kernel
theorem dL_law_603 : decode cL_law 603 = .ok (.iconst 2, 1) := by decide +kernel
theorem dL_law_604 : decode cL_law 604 = .ok (.iadd, 1) := by decide +kernel
theorem dL_law_605 : decode cL_law 605 = .ok (.iaload, 1) := by decide +kernel
theorem dL_law_606 : decode cL_law 606 = .ok (.invokevirtual 76, 3) := by decide +kernel
theorem dL_law_609 : decode cL_law 609 = .ok (.aload_n 2, 1) := by decide +kernel
theorem dL_law_610 : decode cL_law 610 = .ok (.aload_n 0, 1) := by decide +kernel
theorem dL_law_611 : decode cL_law 611 = .ok (.iload_n 3, 1) := by decide +kernel
theorem dL_law_612 : decode cL_law 612 = .ok (.iconst 1, 1) := by decide +kernel
theorem dL_law_613 : decode cL_law 613 = .ok (.iadd, 1) := by decide +kernel
theorem dL_law_614 : decode cL_law 614 = .ok (.iaload, 1) := by decide +kernel
theorem dL_law_615 : decode cL_law 615 = .ok (.aload_n 0, 1) := by decide +kernel
theorem dL_law_616 : decode cL_law 616 = .ok (.iload_n 3, 1) := by decide +kernel
theorem dL_law_617 : decode cL_law 617 = .ok (.iconst 2, 1) := by decide +kernel
theorem dL_law_618 : decode cL_law 618 = .ok (.iadd, 1) := by decide +kernel
theorem dL_law_619 : decode cL_law 619 = .ok (.iaload, 1) := by decide +kernel
theorem dL_law_620 : decode cL_law 620 = .ok (.invokevirtual 79, 3) := by decide +kernel
theorem dL_law_623 : decode cL_law 623 = .ok (.if_icmp .eq 486, 3) := by decide +kernel
theorem dL_law_626 : decode cL_law 626 = .ok (.iconst 0, 1) := by decide +kernel
theorem dL_law_627 : decode cL_law 627 = .ok (.ireturn, 1) := by decide +kernel
theorem dL_law_628 : decode cL_law 628 = .ok (.aload_n 1, 1) := by decide +kernel
theorem dL_law_629 : decode cL_law 629 = .ok (.aload_n 0, 1) := by decide +kernel
theorem dL_law_630 : decode cL_law 630 = .ok (.iload_n 3, 1) := by decide +kernel
theorem dL_law_631 : decode cL_law 631 = .ok (.iconst 1, 1) := by decide +kernel
theorem dL_law_632 : decode cL_law 632 = .ok (.iadd, 1) := by decide +kernel
theorem dL_law_633 : decode cL_law 633 = .ok (.iaload, 1) := by decide +kernel
theorem dL_law_634 : decode cL_law 634 = .ok (.aload_n 0, 1) := by decide +kernel
theorem dL_law_635 : decode cL_law 635 = .ok (.iload_n 3, 1) := by decide +kernel
theorem dL_law_636 : decode cL_law 636 = .ok (.iconst 2, 1) := by decide +kernel
theorem dL_law_637 : decode cL_law 637 = .ok (.iadd, 1) := by decide +kernel
theorem dL_law_638 : decode cL_law 638 = .ok (.iaload, 1) := by decide +kernel
theorem dL_law_639 : decode cL_law 639 = .ok (.aload_n 0, 1) := by decide +kernel
theorem dL_law_640 : decode cL_law 640 = .ok (.iload_n 3, 1) := by decide +kernel
theorem dL_law_641 : decode cL_law 641 = .ok (.iconst 3, 1) := by decide +kernel
theorem dL_law_642 : decode cL_law 642 = .ok (.iadd, 1) := by decide +kernel
theorem dL_law_643 : decode cL_law 643 = .ok (.iaload, 1) := by decide +kernel
theorem dL_law_644 : decode cL_law 644 = .ok (.invokevirtual 80, 3) := by decide +kernel
theorem dL_law_647 : decode cL_law 647 = .ok (.aload_n 2, 1) := by decide +kernel
theorem dL_law_648 : decode cL_law 648 = .ok (.aload_n 0, 1) := by decide +kernel
theorem dL_law_649 : decode cL_law 649 = .ok (.iload_n 3, 1) := by decide +kernel
theorem dL_law_650 : decode cL_law 650 = .ok (.iconst 1, 1) := by decide +kernel
theorem dL_law_651 : decode cL_law 651 = .ok (.iadd, 1) := by decide +kernel
theorem dL_law_652 : decode cL_law 652 = .ok (.iaload, 1) := by decide +kernel
theorem dL_law_653 : decode cL_law 653 = .ok (.aload_n 0, 1) := by decide +kernel
theorem dL_law_654 : decode cL_law 654 = .ok (.iload_n 3, 1) := by decide +kernel
theorem dL_law_655 : decode cL_law 655 = .ok (.iconst 2, 1) := by decide +kernel
theorem dL_law_656 : decode cL_law 656 = .ok (.iadd, 1) := by decide +kernel
theorem dL_law_657 : decode cL_law 657 = .ok (.iaload, 1) := by decide +kernel
theorem dL_law_658 : decode cL_law 658 = .ok (.aload_n 0, 1) := by decide +kernel
theorem dL_law_659 : decode cL_law 659 = .ok (.iload_n 3, 1) := by decide +kernel
theorem dL_law_660 : decode cL_law 660 = .ok (.iconst 3, 1) := by decide +kernel
theorem dL_law_661 : decode cL_law 661 = .ok (.iadd, 1) := by decide +kernel
theorem dL_law_662 : decode cL_law 662 = .ok (.iaload, 1) := by decide +kernel
theorem dL_law_663 : decode cL_law 663 = .ok (.invokevirtual 83, 3) := by decide +kernel
theorem dL_law_666 : decode cL_law 666 = .ok (.if_icmp .eq 443, 3) := by decide +kernel
theorem dL_law_669 : decode cL_law 669 = .ok (.iconst 0, 1) := by decide +kernel
theorem dL_law_670 : decode cL_law 670 = .ok (.ireturn, 1) := by decide +kernel
theorem dL_law_671 : decode cL_law 671 = .ok (.aload_n 1, 1) := by decide +kernel
theorem dL_law_672 : decode cL_law 672 = .ok (.aload_n 0, 1) := by decide +kernel
theorem dL_law_673 : decode cL_law 673 = .ok (.iload_n 3, 1) := by decide +kernel
theorem dL_law_674 : decode cL_law 674 = .ok (.iconst 1, 1) := by decide +kernel
theorem dL_law_675 : decode cL_law 675 = .ok (.iadd, 1) := by decide +kernel
theorem dL_law_676 : decode cL_law 676 = .ok (.iaload, 1) := by decide +kernel
theorem dL_law_677 : decode cL_law 677 = .ok (.aload_n 0, 1) := by decide +kernel
theorem dL_law_678 : decode cL_law 678 = .ok (.iload_n 3, 1) := by decide +kernel
theorem dL_law_679 : decode cL_law 679 = .ok (.iconst 2, 1) := by decide +kernel
theorem dL_law_680 : decode cL_law 680 = .ok (.iadd, 1) := by decide +kernel
theorem dL_law_681 : decode cL_law 681 = .ok (.iaload, 1) := by decide +kernel
theorem dL_law_682 : decode cL_law 682 = .ok (.invokevirtual 84, 3) := by decide +kernel
theorem dL_law_685 : decode cL_law 685 = .ok (.aload_n 2, 1) := by decide +kernel
theorem dL_law_686 : decode cL_law 686 = .ok (.aload_n 0, 1) := by decide +kernel
theorem dL_law_687 : decode cL_law 687 = .ok (.iload_n 3, 1) := by decide +kernel
theorem dL_law_688 : decode cL_law 688 = .ok (.iconst 1, 1) := by decide +kernel
theorem dL_law_689 : decode cL_law 689 = .ok (.iadd, 1) := by decide +kernel
theorem dL_law_690 : decode cL_law 690 = .ok (.iaload, 1) := by decide +kernel
theorem dL_law_691 : decode cL_law 691 = .ok (.aload_n 0, 1) := by decide +kernel
theorem dL_law_692 : decode cL_law 692 = .ok (.iload_n 3, 1) := by decide +kernel
theorem dL_law_693 : decode cL_law 693 = .ok (.iconst 2, 1) := by decide +kernel
theorem dL_law_694 : decode cL_law 694 = .ok (.iadd, 1) := by decide +kernel
theorem dL_law_695 : decode cL_law 695 = .ok (.iaload, 1) := by decide +kernel
theorem dL_law_696 : decode cL_law 696 = .ok (.invokevirtual 87, 3) := by decide +kernel
theorem dL_law_699 : decode cL_law 699 = .ok (.if_icmp .eq 410, 3) := by decide +kernel
theorem dL_law_702 : decode cL_law 702 = .ok (.iconst 0, 1) := by decide +kernel
theorem dL_law_703 : decode cL_law 703 = .ok (.ireturn, 1) := by decide +kernel
theorem dL_law_704 : decode cL_law 704 = .ok (.aload_n 1, 1) := by decide +kernel
theorem dL_law_705 : decode cL_law 705 = .ok (.aload_n 0, 1) := by decide +kernel
theorem dL_law_706 : decode cL_law 706 = .ok (.iload_n 3, 1) := by decide +kernel
theorem dL_law_707 : decode cL_law 707 = .ok (.iconst 1, 1) := by decide +kernel
theorem dL_law_708 : decode cL_law 708 = .ok (.iadd, 1) := by decide +kernel
theorem dL_law_709 : decode cL_law 709 = .ok (.iaload, 1) := by decide +kernel
theorem dL_law_710 : decode cL_law 710 = .ok (.aload_n 0, 1) := by decide +kernel
theorem dL_law_711 : decode cL_law 711 = .ok (.iload_n 3, 1) := by decide +kernel
theorem dL_law_712 : decode cL_law 712 = .ok (.iconst 2, 1) := by decide +kernel
theorem dL_law_713 : decode cL_law 713 = .ok (.iadd, 1) := by decide +kernel
theorem dL_law_714 : decode cL_law 714 = .ok (.iaload, 1) := by decide +kernel
theorem dL_law_715 : decode cL_law 715 = .ok (.aload_n 0, 1) := by decide +kernel
theorem dL_law_716 : decode cL_law 716 = .ok (.iload_n 3, 1) := by decide +kernel
theorem dL_law_717 : decode cL_law 717 = .ok (.iconst 3, 1) := by decide +kernel
theorem dL_law_718 : decode cL_law 718 = .ok (.iadd, 1) := by decide +kernel
theorem dL_law_719 : decode cL_law 719 = .ok (.iaload, 1) := by decide +kernel
theorem dL_law_720 : decode cL_law 720 = .ok (.invokevirtual 88, 3) := by decide +kernel
theorem dL_law_723 : decode cL_law 723 = .ok (.aload_n 2, 1) := by decide +kernel
theorem dL_law_724 : decode cL_law 724 = .ok (.aload_n 0, 1) := by decide +kernel
theorem dL_law_725 : decode cL_law 725 = .ok (.iload_n 3, 1) := by decide +kernel
theorem dL_law_726 : decode cL_law 726 = .ok (.iconst 1, 1) := by decide +kernel
theorem dL_law_727 : decode cL_law 727 = .ok (.iadd, 1) := by decide +kernel
theorem dL_law_728 : decode cL_law 728 = .ok (.iaload, 1) := by decide +kernel
theorem dL_law_729 : decode cL_law 729 = .ok (.aload_n 0, 1) := by decide +kernel
theorem dL_law_730 : decode cL_law 730 = .ok (.iload_n 3, 1) := by decide +kernel
theorem dL_law_731 : decode cL_law 731 = .ok (.iconst 2, 1) := by decide +kernel
theorem dL_law_732 : decode cL_law 732 = .ok (.iadd, 1) := by decide +kernel
theorem dL_law_733 : decode cL_law 733 = .ok (.iaload, 1) := by decide +kernel
theorem dL_law_734 : decode cL_law 734 = .ok (.aload_n 0, 1) := by decide +kernel
theorem dL_law_735 : decode cL_law 735 = .ok (.iload_n 3, 1) := by decide +kernel
theorem dL_law_736 : decode cL_law 736 = .ok (.iconst 3, 1) := by decide +kernel
theorem dL_law_737 : decode cL_law 737 = .ok (.iadd, 1) := by decide +kernel
theorem dL_law_738 : decode cL_law 738 = .ok (.iaload, 1) := by decide +kernel
theorem dL_law_739 : decode cL_law 739 = .ok (.invokevirtual 91, 3) := by decide +kernel
theorem dL_law_742 : decode cL_law 742 = .ok (.if_icmp .eq 367, 3) := by decide +kernel
theorem dL_law_745 : decode cL_law 745 = .ok (.iconst 0, 1) := by decide +kernel
theorem dL_law_746 : decode cL_law 746 = .ok (.ireturn, 1) := by decide +kernel
theorem dL_law_747 : decode cL_law 747 = .ok (.aload_n 1, 1) := by decide +kernel
theorem dL_law_748 : decode cL_law 748 = .ok (.aload_n 0, 1) := by decide +kernel
theorem dL_law_749 : decode cL_law 749 = .ok (.iload_n 3, 1) := by decide +kernel
theorem dL_law_750 : decode cL_law 750 = .ok (.iconst 1, 1) := by decide +kernel
theorem dL_law_751 : decode cL_law 751 = .ok (.iadd, 1) := by decide +kernel
theorem dL_law_752 : decode cL_law 752 = .ok (.iaload, 1) := by decide +kernel
theorem dL_law_753 : decode cL_law 753 = .ok (.aload_n 0, 1) := by decide +kernel
theorem dL_law_754 : decode cL_law 754 = .ok (.iload_n 3, 1) := by decide +kernel
theorem dL_law_755 : decode cL_law 755 = .ok (.iconst 2, 1) := by decide +kernel
theorem dL_law_756 : decode cL_law 756 = .ok (.iadd, 1) := by decide +kernel
theorem dL_law_757 : decode cL_law 757 = .ok (.iaload, 1) := by decide +kernel
theorem dL_law_758 : decode cL_law 758 = .ok (.aload_n 0, 1) := by decide +kernel
theorem dL_law_759 : decode cL_law 759 = .ok (.iload_n 3, 1) := by decide +kernel
theorem dL_law_760 : decode cL_law 760 = .ok (.iconst 3, 1) := by decide +kernel
theorem dL_law_761 : decode cL_law 761 = .ok (.iadd, 1) := by decide +kernel
theorem dL_law_762 : decode cL_law 762 = .ok (.iaload, 1) := by decide +kernel
theorem dL_law_763 : decode cL_law 763 = .ok (.invokevirtual 92, 3) := by decide +kernel
theorem dL_law_766 : decode cL_law 766 = .ok (.aload_n 2, 1) := by decide +kernel
theorem dL_law_767 : decode cL_law 767 = .ok (.aload_n 0, 1) := by decide +kernel
theorem dL_law_768 : decode cL_law 768 = .ok (.iload_n 3, 1) := by decide +kernel
theorem dL_law_769 : decode cL_law 769 = .ok (.iconst 1, 1) := by decide +kernel
theorem dL_law_770 : decode cL_law 770 = .ok (.iadd, 1) := by decide +kernel
theorem dL_law_771 : decode cL_law 771 = .ok (.iaload, 1) := by decide +kernel
theorem dL_law_772 : decode cL_law 772 = .ok (.aload_n 0, 1) := by decide +kernel
theorem dL_law_773 : decode cL_law 773 = .ok (.iload_n 3, 1) := by decide +kernel
theorem dL_law_774 : decode cL_law 774 = .ok (.iconst 2, 1) := by decide +kernel
theorem dL_law_775 : decode cL_law 775 = .ok (.iadd, 1) := by decide +kernel
theorem dL_law_776 : decode cL_law 776 = .ok (.iaload, 1) := by decide +kernel
theorem dL_law_777 : decode cL_law 777 = .ok (.aload_n 0, 1) := by decide +kernel
theorem dL_law_778 : decode cL_law 778 = .ok (.iload_n 3, 1) := by decide +kernel
theorem dL_law_779 : decode cL_law 779 = .ok (.iconst 3, 1) := by decide +kernel
theorem dL_law_780 : decode cL_law 780 = .ok (.iadd, 1) := by decide +kernel
theorem dL_law_781 : decode cL_law 781 = .ok (.iaload, 1) := by decide +kernel
theorem dL_law_782 : decode cL_law 782 = .ok (.invokevirtual 95, 3) := by decide +kernel
theorem dL_law_785 : decode cL_law 785 = .ok (.if_icmp .eq 324, 3) := by decide +kernel
theorem dL_law_788 : decode cL_law 788 = .ok (.iconst 0, 1) := by decide +kernel
theorem dL_law_789 : decode cL_law 789 = .ok (.ireturn, 1) := by decide +kernel
theorem dL_law_790 : decode cL_law 790 = .ok (.aload_n 1, 1) := by decide +kernel
theorem dL_law_791 : decode cL_law 791 = .ok (.aload_n 0, 1) := by decide +kernel
theorem dL_law_792 : decode cL_law 792 = .ok (.iload_n 3, 1) := by decide +kernel
theorem dL_law_793 : decode cL_law 793 = .ok (.iconst 1, 1) := by decide +kernel
theorem dL_law_794 : decode cL_law 794 = .ok (.iadd, 1) := by decide +kernel
theorem dL_law_795 : decode cL_law 795 = .ok (.iaload, 1) := by decide +kernel
theorem dL_law_796 : decode cL_law 796 = .ok (.aload_n 0, 1) := by decide +kernel
theorem dL_law_797 : decode cL_law 797 = .ok (.iload_n 3, 1) := by decide +kernel
theorem dL_law_798 : decode cL_law 798 = .ok (.iconst 2, 1) := by decide +kernel
theorem dL_law_799 : decode cL_law 799 = .ok (.iadd, 1) := by decide +kernel
theorem dL_law_800 : decode cL_law 800 = .ok (.iaload, 1) := by decide +kernel
theorem dL_law_801 : decode cL_law 801 = .ok (.aload_n 0, 1) := by decide +kernel
theorem dL_law_802 : decode cL_law 802 = .ok (.iload_n 3, 1) := by decide +kernel
theorem dL_law_803 : decode cL_law 803 = .ok (.iconst 3, 1) := by decide +kernel
theorem dL_law_804 : decode cL_law 804 = .ok (.iadd, 1) := by decide +kernel
theorem dL_law_805 : decode cL_law 805 = .ok (.iaload, 1) := by decide +kernel
theorem dL_law_806 : decode cL_law 806 = .ok (.invokevirtual 96, 3) := by decide +kernel
theorem dL_law_809 : decode cL_law 809 = .ok (.aload_n 2, 1) := by decide +kernel
theorem dL_law_810 : decode cL_law 810 = .ok (.aload_n 0, 1) := by decide +kernel
theorem dL_law_811 : decode cL_law 811 = .ok (.iload_n 3, 1) := by decide +kernel
theorem dL_law_812 : decode cL_law 812 = .ok (.iconst 1, 1) := by decide +kernel
theorem dL_law_813 : decode cL_law 813 = .ok (.iadd, 1) := by decide +kernel
theorem dL_law_814 : decode cL_law 814 = .ok (.iaload, 1) := by decide +kernel
theorem dL_law_815 : decode cL_law 815 = .ok (.aload_n 0, 1) := by decide +kernel
theorem dL_law_816 : decode cL_law 816 = .ok (.iload_n 3, 1) := by decide +kernel
theorem dL_law_817 : decode cL_law 817 = .ok (.iconst 2, 1) := by decide +kernel
theorem dL_law_818 : decode cL_law 818 = .ok (.iadd, 1) := by decide +kernel
theorem dL_law_819 : decode cL_law 819 = .ok (.iaload, 1) := by decide +kernel
theorem dL_law_820 : decode cL_law 820 = .ok (.aload_n 0, 1) := by decide +kernel
theorem dL_law_821 : decode cL_law 821 = .ok (.iload_n 3, 1) := by decide +kernel
theorem dL_law_822 : decode cL_law 822 = .ok (.iconst 3, 1) := by decide +kernel
theorem dL_law_823 : decode cL_law 823 = .ok (.iadd, 1) := by decide +kernel
theorem dL_law_824 : decode cL_law 824 = .ok (.iaload, 1) := by decide +kernel
theorem dL_law_825 : decode cL_law 825 = .ok (.invokevirtual 99, 3) := by decide +kernel
theorem dL_law_828 : decode cL_law 828 = .ok (.if_icmp .eq 281, 3) := by decide +kernel
theorem dL_law_831 : decode cL_law 831 = .ok (.iconst 0, 1) := by decide +kernel
theorem dL_law_832 : decode cL_law 832 = .ok (.ireturn, 1) := by decide +kernel
theorem dL_law_833 : decode cL_law 833 = .ok (.aload_n 1, 1) := by decide +kernel
theorem dL_law_834 : decode cL_law 834 = .ok (.aload_n 0, 1) := by decide +kernel
theorem dL_law_835 : decode cL_law 835 = .ok (.iload_n 3, 1) := by decide +kernel
theorem dL_law_836 : decode cL_law 836 = .ok (.iconst 1, 1) := by decide +kernel
theorem dL_law_837 : decode cL_law 837 = .ok (.iadd, 1) := by decide +kernel
theorem dL_law_838 : decode cL_law 838 = .ok (.iaload, 1) := by decide +kernel
theorem dL_law_839 : decode cL_law 839 = .ok (.invokevirtual 100, 3) := by decide +kernel
theorem dL_law_842 : decode cL_law 842 = .ok (.aload_n 2, 1) := by decide +kernel
theorem dL_law_843 : decode cL_law 843 = .ok (.aload_n 0, 1) := by decide +kernel
theorem dL_law_844 : decode cL_law 844 = .ok (.iload_n 3, 1) := by decide +kernel
theorem dL_law_845 : decode cL_law 845 = .ok (.iconst 1, 1) := by decide +kernel
theorem dL_law_846 : decode cL_law 846 = .ok (.iadd, 1) := by decide +kernel
theorem dL_law_847 : decode cL_law 847 = .ok (.iaload, 1) := by decide +kernel
theorem dL_law_848 : decode cL_law 848 = .ok (.invokevirtual 104, 3) := by decide +kernel
theorem dL_law_851 : decode cL_law 851 = .ok (.if_icmp .eq 258, 3) := by decide +kernel
theorem dL_law_854 : decode cL_law 854 = .ok (.iconst 0, 1) := by decide +kernel
theorem dL_law_855 : decode cL_law 855 = .ok (.ireturn, 1) := by decide +kernel
theorem dL_law_856 : decode cL_law 856 = .ok (.aload_n 1, 1) := by decide +kernel
theorem dL_law_857 : decode cL_law 857 = .ok (.aload_n 0, 1) := by decide +kernel
theorem dL_law_858 : decode cL_law 858 = .ok (.iload_n 3, 1) := by decide +kernel
theorem dL_law_859 : decode cL_law 859 = .ok (.iconst 1, 1) := by decide +kernel
theorem dL_law_860 : decode cL_law 860 = .ok (.iadd, 1) := by decide +kernel
theorem dL_law_861 : decode cL_law 861 = .ok (.iaload, 1) := by decide +kernel
theorem dL_law_862 : decode cL_law 862 = .ok (.aload_n 0, 1) := by decide +kernel
theorem dL_law_863 : decode cL_law 863 = .ok (.iload_n 3, 1) := by decide +kernel
theorem dL_law_864 : decode cL_law 864 = .ok (.iconst 2, 1) := by decide +kernel
theorem dL_law_865 : decode cL_law 865 = .ok (.iadd, 1) := by decide +kernel
theorem dL_law_866 : decode cL_law 866 = .ok (.iaload, 1) := by decide +kernel
theorem dL_law_867 : decode cL_law 867 = .ok (.aload_n 0, 1) := by decide +kernel
theorem dL_law_868 : decode cL_law 868 = .ok (.iload_n 3, 1) := by decide +kernel
theorem dL_law_869 : decode cL_law 869 = .ok (.iconst 3, 1) := by decide +kernel
theorem dL_law_870 : decode cL_law 870 = .ok (.iadd, 1) := by decide +kernel
theorem dL_law_871 : decode cL_law 871 = .ok (.iaload, 1) := by decide +kernel
theorem dL_law_872 : decode cL_law 872 = .ok (.aload_n 0, 1) := by decide +kernel
theorem dL_law_873 : decode cL_law 873 = .ok (.iload_n 3, 1) := by decide +kernel
theorem dL_law_874 : decode cL_law 874 = .ok (.iconst 4, 1) := by decide +kernel
theorem dL_law_875 : decode cL_law 875 = .ok (.iadd, 1) := by decide +kernel
theorem dL_law_876 : decode cL_law 876 = .ok (.iaload, 1) := by decide +kernel
theorem dL_law_877 : decode cL_law 877 = .ok (.invokevirtual 105, 3) := by decide +kernel
theorem dL_law_880 : decode cL_law 880 = .ok (.aload_n 2, 1) := by decide +kernel
theorem dL_law_881 : decode cL_law 881 = .ok (.aload_n 0, 1) := by decide +kernel
theorem dL_law_882 : decode cL_law 882 = .ok (.iload_n 3, 1) := by decide +kernel
theorem dL_law_883 : decode cL_law 883 = .ok (.iconst 1, 1) := by decide +kernel
theorem dL_law_884 : decode cL_law 884 = .ok (.iadd, 1) := by decide +kernel
theorem dL_law_885 : decode cL_law 885 = .ok (.iaload, 1) := by decide +kernel
theorem dL_law_886 : decode cL_law 886 = .ok (.aload_n 0, 1) := by decide +kernel
theorem dL_law_887 : decode cL_law 887 = .ok (.iload_n 3, 1) := by decide +kernel
theorem dL_law_888 : decode cL_law 888 = .ok (.iconst 2, 1) := by decide +kernel
theorem dL_law_889 : decode cL_law 889 = .ok (.iadd, 1) := by decide +kernel
theorem dL_law_890 : decode cL_law 890 = .ok (.iaload, 1) := by decide +kernel
theorem dL_law_891 : decode cL_law 891 = .ok (.aload_n 0, 1) := by decide +kernel
theorem dL_law_892 : decode cL_law 892 = .ok (.iload_n 3, 1) := by decide +kernel
theorem dL_law_893 : decode cL_law 893 = .ok (.iconst 3, 1) := by decide +kernel
theorem dL_law_894 : decode cL_law 894 = .ok (.iadd, 1) := by decide +kernel
theorem dL_law_895 : decode cL_law 895 = .ok (.iaload, 1) := by decide +kernel
theorem dL_law_896 : decode cL_law 896 = .ok (.aload_n 0, 1) := by decide +kernel
theorem dL_law_897 : decode cL_law 897 = .ok (.iload_n 3, 1) := by decide +kernel
theorem dL_law_898 : decode cL_law 898 = .ok (.iconst 4, 1) := by decide +kernel
theorem dL_law_899 : decode cL_law 899 = .ok (.iadd, 1) := by decide +kernel
theorem dL_law_900 : decode cL_law 900 = .ok (.iaload, 1) := by decide +kernel
theorem dL_law_901 : decode cL_law 901 = .ok (.invokevirtual 108, 3) := by decide +kernel
theorem dL_law_904 : decode cL_law 904 = .ok (.lcmp, 1) := by decide +kernel
theorem dL_law_905 : decode cL_law 905 = .ok (.ifCond .eq 204, 3) := by decide +kernel
theorem dL_law_908 : decode cL_law 908 = .ok (.iconst 0, 1) := by decide +kernel
theorem dL_law_909 : decode cL_law 909 = .ok (.ireturn, 1) := by decide +kernel
theorem dL_law_910 : decode cL_law 910 = .ok (.aload_n 1, 1) := by decide +kernel
theorem dL_law_911 : decode cL_law 911 = .ok (.aload_n 0, 1) := by decide +kernel
theorem dL_law_912 : decode cL_law 912 = .ok (.iload_n 3, 1) := by decide +kernel
theorem dL_law_913 : decode cL_law 913 = .ok (.iconst 1, 1) := by decide +kernel
theorem dL_law_914 : decode cL_law 914 = .ok (.iadd, 1) := by decide +kernel
theorem dL_law_915 : decode cL_law 915 = .ok (.iaload, 1) := by decide +kernel
theorem dL_law_916 : decode cL_law 916 = .ok (.invokevirtual 109, 3) := by decide +kernel
theorem dL_law_919 : decode cL_law 919 = .ok (.aload_n 2, 1) := by decide +kernel
theorem dL_law_920 : decode cL_law 920 = .ok (.aload_n 0, 1) := by decide +kernel
theorem dL_law_921 : decode cL_law 921 = .ok (.iload_n 3, 1) := by decide +kernel
theorem dL_law_922 : decode cL_law 922 = .ok (.iconst 1, 1) := by decide +kernel
theorem dL_law_923 : decode cL_law 923 = .ok (.iadd, 1) := by decide +kernel
theorem dL_law_924 : decode cL_law 924 = .ok (.iaload, 1) := by decide +kernel
theorem dL_law_925 : decode cL_law 925 = .ok (.invokevirtual 112, 3) := by decide +kernel
theorem dL_law_928 : decode cL_law 928 = .ok (.if_icmp .eq 181, 3) := by decide +kernel
theorem dL_law_931 : decode cL_law 931 = .ok (.iconst 0, 1) := by decide +kernel
theorem dL_law_932 : decode cL_law 932 = .ok (.ireturn, 1) := by decide +kernel
theorem dL_law_933 : decode cL_law 933 = .ok (.aload_n 1, 1) := by decide +kernel
theorem dL_law_934 : decode cL_law 934 = .ok (.aload_n 0, 1) := by decide +kernel
theorem dL_law_935 : decode cL_law 935 = .ok (.iload_n 3, 1) := by decide +kernel
theorem dL_law_936 : decode cL_law 936 = .ok (.iconst 1, 1) := by decide +kernel
theorem dL_law_937 : decode cL_law 937 = .ok (.iadd, 1) := by decide +kernel
theorem dL_law_938 : decode cL_law 938 = .ok (.iaload, 1) := by decide +kernel
theorem dL_law_939 : decode cL_law 939 = .ok (.aload_n 0, 1) := by decide +kernel
theorem dL_law_940 : decode cL_law 940 = .ok (.iload_n 3, 1) := by decide +kernel
theorem dL_law_941 : decode cL_law 941 = .ok (.iconst 2, 1) := by decide +kernel
theorem dL_law_942 : decode cL_law 942 = .ok (.iadd, 1) := by decide +kernel
theorem dL_law_943 : decode cL_law 943 = .ok (.iaload, 1) := by decide +kernel
theorem dL_law_944 : decode cL_law 944 = .ok (.invokevirtual 113, 3) := by decide +kernel
theorem dL_law_947 : decode cL_law 947 = .ok (.aload_n 2, 1) := by decide +kernel
theorem dL_law_948 : decode cL_law 948 = .ok (.aload_n 0, 1) := by decide +kernel
theorem dL_law_949 : decode cL_law 949 = .ok (.iload_n 3, 1) := by decide +kernel
theorem dL_law_950 : decode cL_law 950 = .ok (.iconst 1, 1) := by decide +kernel
theorem dL_law_951 : decode cL_law 951 = .ok (.iadd, 1) := by decide +kernel
theorem dL_law_952 : decode cL_law 952 = .ok (.iaload, 1) := by decide +kernel
theorem dL_law_953 : decode cL_law 953 = .ok (.aload_n 0, 1) := by decide +kernel
theorem dL_law_954 : decode cL_law 954 = .ok (.iload_n 3, 1) := by decide +kernel
theorem dL_law_955 : decode cL_law 955 = .ok (.iconst 2, 1) := by decide +kernel
theorem dL_law_956 : decode cL_law 956 = .ok (.iadd, 1) := by decide +kernel
theorem dL_law_957 : decode cL_law 957 = .ok (.iaload, 1) := by decide +kernel
theorem dL_law_958 : decode cL_law 958 = .ok (.invokevirtual 116, 3) := by decide +kernel
theorem dL_law_961 : decode cL_law 961 = .ok (.if_icmp .eq 148, 3) := by decide +kernel
theorem dL_law_964 : decode cL_law 964 = .ok (.iconst 0, 1) := by decide +kernel
theorem dL_law_965 : decode cL_law 965 = .ok (.ireturn, 1) := by decide +kernel
theorem dL_law_966 : decode cL_law 966 = .ok (.aload_n 1, 1) := by decide +kernel
theorem dL_law_967 : decode cL_law 967 = .ok (.invokevirtual 117, 3) := by decide +kernel
theorem dL_law_970 : decode cL_law 970 = .ok (.aload_n 2, 1) := by decide +kernel
theorem dL_law_971 : decode cL_law 971 = .ok (.invokevirtual 120, 3) := by decide +kernel
theorem dL_law_974 : decode cL_law 974 = .ok (.if_icmp .eq 135, 3) := by decide +kernel
theorem dL_law_977 : decode cL_law 977 = .ok (.iconst 0, 1) := by decide +kernel
theorem dL_law_978 : decode cL_law 978 = .ok (.ireturn, 1) := by decide +kernel
theorem dL_law_979 : decode cL_law 979 = .ok (.aload_n 1, 1) := by decide +kernel
theorem dL_law_980 : decode cL_law 980 = .ok (.aload_n 0, 1) := by decide +kernel
theorem dL_law_981 : decode cL_law 981 = .ok (.iload_n 3, 1) := by decide +kernel
theorem dL_law_982 : decode cL_law 982 = .ok (.iconst 1, 1) := by decide +kernel
theorem dL_law_983 : decode cL_law 983 = .ok (.iadd, 1) := by decide +kernel
theorem dL_law_984 : decode cL_law 984 = .ok (.iaload, 1) := by decide +kernel
theorem dL_law_985 : decode cL_law 985 = .ok (.invokevirtual 121, 3) := by decide +kernel
theorem dL_law_988 : decode cL_law 988 = .ok (.aload_n 2, 1) := by decide +kernel
theorem dL_law_989 : decode cL_law 989 = .ok (.aload_n 0, 1) := by decide +kernel
theorem dL_law_990 : decode cL_law 990 = .ok (.iload_n 3, 1) := by decide +kernel
theorem dL_law_991 : decode cL_law 991 = .ok (.iconst 1, 1) := by decide +kernel
theorem dL_law_992 : decode cL_law 992 = .ok (.iadd, 1) := by decide +kernel
theorem dL_law_993 : decode cL_law 993 = .ok (.iaload, 1) := by decide +kernel
theorem dL_law_994 : decode cL_law 994 = .ok (.invokevirtual 124, 3) := by decide +kernel
theorem dL_law_997 : decode cL_law 997 = .ok (.if_icmp .eq 112, 3) := by decide +kernel
theorem dL_law_1000 : decode cL_law 1000 = .ok (.iconst 0, 1) := by decide +kernel
theorem dL_law_1001 : decode cL_law 1001 = .ok (.ireturn, 1) := by decide +kernel
theorem dL_law_1002 : decode cL_law 1002 = .ok (.aload_n 1, 1) := by decide +kernel
theorem dL_law_1003 : decode cL_law 1003 = .ok (.aload_n 0, 1) := by decide +kernel
theorem dL_law_1004 : decode cL_law 1004 = .ok (.iload_n 3, 1) := by decide +kernel
theorem dL_law_1005 : decode cL_law 1005 = .ok (.iconst 1, 1) := by decide +kernel
theorem dL_law_1006 : decode cL_law 1006 = .ok (.iadd, 1) := by decide +kernel
theorem dL_law_1007 : decode cL_law 1007 = .ok (.iaload, 1) := by decide +kernel
theorem dL_law_1008 : decode cL_law 1008 = .ok (.aload_n 0, 1) := by decide +kernel
theorem dL_law_1009 : decode cL_law 1009 = .ok (.iload_n 3, 1) := by decide +kernel
theorem dL_law_1010 : decode cL_law 1010 = .ok (.iconst 2, 1) := by decide +kernel
theorem dL_law_1011 : decode cL_law 1011 = .ok (.iadd, 1) := by decide +kernel
theorem dL_law_1012 : decode cL_law 1012 = .ok (.iaload, 1) := by decide +kernel
theorem dL_law_1013 : decode cL_law 1013 = .ok (.aload_n 0, 1) := by decide +kernel
theorem dL_law_1014 : decode cL_law 1014 = .ok (.iload_n 3, 1) := by decide +kernel
theorem dL_law_1015 : decode cL_law 1015 = .ok (.iconst 3, 1) := by decide +kernel
theorem dL_law_1016 : decode cL_law 1016 = .ok (.iadd, 1) := by decide +kernel
theorem dL_law_1017 : decode cL_law 1017 = .ok (.iaload, 1) := by decide +kernel
theorem dL_law_1018 : decode cL_law 1018 = .ok (.invokevirtual 125, 3) := by decide +kernel
theorem dL_law_1021 : decode cL_law 1021 = .ok (.aload_n 2, 1) := by decide +kernel
theorem dL_law_1022 : decode cL_law 1022 = .ok (.aload_n 0, 1) := by decide +kernel
theorem dL_law_1023 : decode cL_law 1023 = .ok (.iload_n 3, 1) := by decide +kernel
theorem dL_law_1024 : decode cL_law 1024 = .ok (.iconst 1, 1) := by decide +kernel
theorem dL_law_1025 : decode cL_law 1025 = .ok (.iadd, 1) := by decide +kernel
theorem dL_law_1026 : decode cL_law 1026 = .ok (.iaload, 1) := by decide +kernel
theorem dL_law_1027 : decode cL_law 1027 = .ok (.aload_n 0, 1) := by decide +kernel
theorem dL_law_1028 : decode cL_law 1028 = .ok (.iload_n 3, 1) := by decide +kernel
theorem dL_law_1029 : decode cL_law 1029 = .ok (.iconst 2, 1) := by decide +kernel
theorem dL_law_1030 : decode cL_law 1030 = .ok (.iadd, 1) := by decide +kernel
theorem dL_law_1031 : decode cL_law 1031 = .ok (.iaload, 1) := by decide +kernel
theorem dL_law_1032 : decode cL_law 1032 = .ok (.aload_n 0, 1) := by decide +kernel
theorem dL_law_1033 : decode cL_law 1033 = .ok (.iload_n 3, 1) := by decide +kernel
theorem dL_law_1034 : decode cL_law 1034 = .ok (.iconst 3, 1) := by decide +kernel
theorem dL_law_1035 : decode cL_law 1035 = .ok (.iadd, 1) := by decide +kernel
theorem dL_law_1036 : decode cL_law 1036 = .ok (.iaload, 1) := by decide +kernel
theorem dL_law_1037 : decode cL_law 1037 = .ok (.invokevirtual 129, 3) := by decide +kernel
theorem dL_law_1040 : decode cL_law 1040 = .ok (.lcmp, 1) := by decide +kernel
theorem dL_law_1041 : decode cL_law 1041 = .ok (.ifCond .eq 68, 3) := by decide +kernel
theorem dL_law_1044 : decode cL_law 1044 = .ok (.iconst 0, 1) := by decide +kernel
theorem dL_law_1045 : decode cL_law 1045 = .ok (.ireturn, 1) := by decide +kernel
theorem dL_law_1046 : decode cL_law 1046 = .ok (.aload_n 1, 1) := by decide +kernel
theorem dL_law_1047 : decode cL_law 1047 = .ok (.invokevirtual 130, 3) := by decide +kernel
theorem dL_law_1050 : decode cL_law 1050 = .ok (.aload_n 2, 1) := by decide +kernel
theorem dL_law_1051 : decode cL_law 1051 = .ok (.invokevirtual 133, 3) := by decide +kernel
theorem dL_law_1054 : decode cL_law 1054 = .ok (.if_icmp .eq 55, 3) := by decide +kernel
theorem dL_law_1057 : decode cL_law 1057 = .ok (.iconst 0, 1) := by decide +kernel
theorem dL_law_1058 : decode cL_law 1058 = .ok (.ireturn, 1) := by decide +kernel
theorem dL_law_1059 : decode cL_law 1059 = .ok (.aload_n 1, 1) := by decide +kernel
theorem dL_law_1060 : decode cL_law 1060 = .ok (.invokevirtual 134, 3) := by decide +kernel
theorem dL_law_1063 : decode cL_law 1063 = .ok (.aload_n 2, 1) := by decide +kernel
theorem dL_law_1064 : decode cL_law 1064 = .ok (.invokevirtual 137, 3) := by decide +kernel
theorem dL_law_1067 : decode cL_law 1067 = .ok (.if_icmp .eq 42, 3) := by decide +kernel
theorem dL_law_1070 : decode cL_law 1070 = .ok (.iconst 0, 1) := by decide +kernel
theorem dL_law_1071 : decode cL_law 1071 = .ok (.ireturn, 1) := by decide +kernel
theorem dL_law_1072 : decode cL_law 1072 = .ok (.aload_n 1, 1) := by decide +kernel
theorem dL_law_1073 : decode cL_law 1073 = .ok (.aload_n 0, 1) := by decide +kernel
theorem dL_law_1074 : decode cL_law 1074 = .ok (.iload_n 3, 1) := by decide +kernel
theorem dL_law_1075 : decode cL_law 1075 = .ok (.iconst 1, 1) := by decide +kernel
theorem dL_law_1076 : decode cL_law 1076 = .ok (.iadd, 1) := by decide +kernel
theorem dL_law_1077 : decode cL_law 1077 = .ok (.iaload, 1) := by decide +kernel
theorem dL_law_1078 : decode cL_law 1078 = .ok (.invokevirtual 138, 3) := by decide +kernel
theorem dL_law_1081 : decode cL_law 1081 = .ok (.aload_n 2, 1) := by decide +kernel
theorem dL_law_1082 : decode cL_law 1082 = .ok (.aload_n 0, 1) := by decide +kernel
theorem dL_law_1083 : decode cL_law 1083 = .ok (.iload_n 3, 1) := by decide +kernel
theorem dL_law_1084 : decode cL_law 1084 = .ok (.iconst 1, 1) := by decide +kernel
theorem dL_law_1085 : decode cL_law 1085 = .ok (.iadd, 1) := by decide +kernel
theorem dL_law_1086 : decode cL_law 1086 = .ok (.iaload, 1) := by decide +kernel
theorem dL_law_1087 : decode cL_law 1087 = .ok (.invokevirtual 141, 3) := by decide +kernel
theorem dL_law_1090 : decode cL_law 1090 = .ok (.if_icmp .eq 19, 3) := by decide +kernel
theorem dL_law_1093 : decode cL_law 1093 = .ok (.iconst 0, 1) := by decide +kernel
theorem dL_law_1094 : decode cL_law 1094 = .ok (.ireturn, 1) := by decide +kernel
theorem dL_law_1095 : decode cL_law 1095 = .ok (.aload_n 1, 1) := by decide +kernel
theorem dL_law_1096 : decode cL_law 1096 = .ok (.invokevirtual 142, 3) := by decide +kernel
theorem dL_law_1099 : decode cL_law 1099 = .ok (.aload_n 2, 1) := by decide +kernel
theorem dL_law_1100 : decode cL_law 1100 = .ok (.invokevirtual 146, 3) := by decide +kernel
theorem dL_law_1103 : decode cL_law 1103 = .ok (.lcmp, 1) := by decide +kernel
theorem dL_law_1104 : decode cL_law 1104 = .ok (.ifCond .eq 5, 3) := by decide +kernel
theorem dL_law_1107 : decode cL_law 1107 = .ok (.iconst 0, 1) := by decide +kernel
theorem dL_law_1108 : decode cL_law 1108 = .ok (.ireturn, 1) := by decide +kernel
theorem dL_law_1109 : decode cL_law 1109 = .ok (.iinc 3 5, 3) := by decide +kernel
theorem dL_law_1112 : decode cL_law 1112 = .ok (.goto (-1094), 3) := by decide +kernel
theorem dL_law_1115 : decode cL_law 1115 = .ok (.iconst 1, 1) := by decide +kernel
theorem dL_law_1116 : decode cL_law 1116 = .ok (.ireturn, 1) := by decide +kernel
end
section
/-! THE TABLES of the small machine, printed by program: who owns which numbers -/
def sm_cnL : List String := [RX0, RX1, RX2, RX3, RX4, RX5, RX6, RX7, RX8, RX9, RX10, RX11, RJ6, RJ9, RJ7, RL]
def sm_cn (o : Nat) : String := sm_cnL.getD o ""
/-- a method: its owner, name, bytes, locals, answer, kind (0 static, 1 of an object, 2 a maker), parameters, places of its words -/
abbrev sm_MT : Type := Nat × MethodName × ByteArray × Nat × Option FieldType × Nat × Nat × Nat × Nat × Nat × Nat
def sm_mt0 : List sm_MT := [(0, yX0_init, cX0_init, 1, none, 2, 0, 225, 224, 0, 56), (0, yX0_begin, cX0_begin, 1, none, 1, 0, 353, 351, 352, 56), (0, yX0_takeSign, cX0_takeSign, 2, (some .boolean), 1, 1, 374, 372, 373, 56), (0, yX0_needsAmount, cX0_needsAmount, 1, (some .boolean), 1, 0, 383, 381, 382, 56), (0, yX0_takeAmount, cX0_takeAmount, 2, (some .boolean), 1, 1, 387, 385, 386, 56), (0, yX0_takePerson, cX0_takePerson, 3, (some .boolean), 1, 1, 391, 389, 390, 56), (0, yX0_isWhole, cX0_isWhole, 1, (some .boolean), 1, 0, 370, 368, 369, 56), (0, yX0_isA, cX0_isA, 2, (some .boolean), 1, 1, 432, 430, 431, 56), (0, yX0_size, cX0_size, 1, (some .int), 1, 0, 570, 568, 569, 56), (0, yX0_tenths, cX0_tenths, 1, (some .int), 1, 0, 506, 504, 505, 56), (0, yX0_fact, cX0_fact, 2, (some .int), 1, 1, 420, 418, 419, 56), (0, yX0_member, cX0_member, 2, (some .int), 1, 1, 424, 422, 423, 56), (0, yX0_placeOf, cX0_placeOf, 3, (some .int), 1, 1, 480, 478, 479, 56), (0, yX0_hasAnyOf, cX0_hasAnyOf, 3, (some .boolean), 1, 1, 559, 557, 558, 56), (0, yX0_delay, cX0_delay, 3, (some .int), 1, 2, 484, 482, 483, 56), (1, yX1_init, cX1_init, 1, none, 2, 0, 136, 135, 0, 51), (1, yX1_size, cX1_size, 1, (some .int), 1, 0, 709, 707, 708, 51), (1, yX1_at, cX1_at, 2, (some .int), 1, 1, 701, 699, 700, 51), (1, yX1_add, cX1_add, 3, (some .int), 1, 1, 697, 695, 696, 51), (1, yX1_copyFrom, cX1_copyFrom, 2, none, 1, 1, 799, 797, 798, 51), (1, yX1_weight, cX1_weight, 6, (some .long), 1, 3, 720, 718, 719, 51), (1, yX1_weightOfAll, cX1_weightOfAll, 6, (some .long), 1, 2, 716, 714, 715, 51), (2, yX2_init, cX2_init, 1, none, 2, 0, 149, 148, 0, 52), (2, yX2_size, cX2_size, 1, (some .int), 1, 0, 733, 731, 732, 52), (2, yX2_winces, cX2_winces, 1, (some .int), 1, 0, 829, 827, 828, 52), (2, yX2_gather, cX2_gather, 2, none, 1, 1, 737, 735, 736, 52), (2, yX2_add, cX2_add, 3, (some .int), 1, 2, 745, 743, 744, 52), (2, yX2_copyFrom, cX2_copyFrom, 2, none, 1, 1, 804, 802, 803, 52), (2, yX2_survey, cX2_survey, 3, (some .int), 1, 0, 753, 751, 752, 52), (2, yX2_onlyTwin, cX2_onlyTwin, 2, (some .int), 1, 1, 774, 772, 773, 52)]
def sm_mt1 : List sm_MT := [(2, yX2_pairUp, cX2_pairUp, 7, (some .int), 1, 2, 758, 757, 12, 52), (2, yX2_mayBeTwins, cX2_mayBeTwins, 3, (some .boolean), 1, 2, 766, 765, 13, 52), (2, yX2_firstOf, cX2_firstOf, 2, (some .int), 0, 1, 761, 760, 0, 52), (3, yX3_init, cX3_init, 1, none, 2, 0, 190, 189, 0, 54), (3, yX3_isGood, cX3_isGood, 1, (some .boolean), 1, 0, 813, 811, 812, 54), (3, yX3_spoil, cX3_spoil, 1, none, 1, 0, 407, 405, 406, 54), (3, yX3_keep, cX3_keep, 5, none, 1, 4, 787, 785, 786, 54), (3, yX3_giveBack, cX3_giveBack, 5, none, 1, 4, 817, 815, 816, 54), (4, yX4_init, cX4_init, 1, none, 2, 0, 107, 106, 0, 49), (4, yX4_setRoad, cX4_setRoad, 5, (some .int), 1, 3, 303, 301, 302, 49), (4, yX4_roads, cX4_roads, 3, (some .int), 1, 0, 825, 823, 824, 49), (4, yX4_reckon, cX4_reckon, 7, none, 1, 3, 537, 535, 536, 49), (4, yX4_addPinches, cX4_addPinches, 7, none, 1, 2, 566, 565, 5, 49), (4, yX4_minutesBetween, cX4_minutesBetween, 4, (some .int), 1, 2, 589, 587, 588, 49), (4, yX4_townOfPairs, cX4_townOfPairs, 2, (some .int), 1, 1, 643, 641, 642, 49), (4, yX4_fewestPairs, cX4_fewestPairs, 2, (some .int), 1, 1, 606, 604, 605, 49), (4, yX4_isWithinByOne, cX4_isWithinByOne, 3, (some .boolean), 1, 1, 615, 614, 7, 49), (4, yX4_isWithinByTwo, cX4_isWithinByTwo, 4, (some .boolean), 1, 1, 635, 634, 10, 49), (4, yX4_notePair, cX4_notePair, 3, none, 1, 2, 631, 630, 9, 49), (5, yX5_init, cX5_init, 1, none, 2, 0, 74, 73, 0, 47), (5, yX5_size, cX5_size, 1, (some .int), 1, 0, 333, 331, 332, 47), (5, yX5_at, cX5_at, 2, (some .int), 1, 1, 358, 356, 357, 47), (5, yX5_clear, cX5_clear, 1, none, 1, 0, 337, 335, 336, 47), (5, yX5_write, cX5_write, 5, (some .int), 1, 1, 318, 316, 317, 47), (5, yX5_lettersIn, cX5_lettersIn, 6, (some .int), 0, 1, 321, 320, 0, 47), (5, yX5_byteOf, cX5_byteOf, 3, (some .int), 0, 2, 324, 323, 0, 47), (6, yX6_init, cX6_init, 2, none, 2, 0, 218, 217, 0, 55), (6, yX6_readFrom, cX6_readFrom, 3, (some .int), 1, 1, 345, 343, 344, 55), (6, yX6_isWhole, cX6_isWhole, 2, (some .boolean), 1, 0, 399, 397, 398, 55), (6, yX6_size, cX6_size, 1, (some .int), 1, 0, 411, 409, 410, 55)]
def sm_mt2 : List sm_MT := [(6, yX6_find, cX6_find, 2, (some (.object "FeltByTwin$Birth")), 1, 1, 366, 364, 365, 55), (6, yX6_birthOf, cX6_birthOf, 2, (some .int), 1, 1, 440, 438, 439, 55), (6, yX6_tenthsOf, cX6_tenthsOf, 3, (some .int), 1, 1, 502, 500, 501, 55), (6, yX6_delay, cX6_delay, 5, (some .int), 1, 2, 475, 473, 474, 55), (6, yX6_beginBirth, cX6_beginBirth, 1, (some .boolean), 1, 0, 349, 348, 0, 55), (6, yX6_take, cX6_take, 3, (some .boolean), 1, 1, 362, 361, 1, 55), (6, yX6_takeDigit, cX6_takeDigit, 3, (some .boolean), 1, 2, 378, 377, 2, 55), (7, yX7_init, cX7_init, 1, none, 2, 0, 174, 173, 0, 53), (7, yX7_most, cX7_most, 1, (some .int), 1, 0, 685, 683, 684, 53), (7, yX7_firstSet, cX7_firstSet, 1, (some .int), 1, 0, 689, 687, 688, 53), (7, yX7_search, cX7_search, 5, none, 1, 2, 666, 664, 665, 53), (7, yX7_rowsLike, cX7_rowsLike, 7, (some .int), 0, 3, 670, 669, 0, 53), (7, yX7_choose, cX7_choose, 5, none, 1, 4, 680, 679, 11, 53), (8, yX8_init, cX8_init, 1, none, 2, 0, 88, 87, 0, 48), (8, yX8_size, cX8_size, 1, (some .int), 1, 0, 460, 458, 459, 48), (8, yX8_clear, cX8_clear, 1, none, 1, 0, 403, 401, 402, 48), (8, yX8_add, cX8_add, 3, (some .int), 1, 2, 452, 450, 451, 48), (8, yX8_copyFrom, cX8_copyFrom, 2, none, 1, 1, 791, 789, 790, 48), (8, yX8_ofPerson, cX8_ofPerson, 4, (some .int), 1, 1, 444, 442, 443, 48), (8, yX8_timesFelt, cX8_timesFelt, 8, (some .int), 1, 4, 471, 469, 470, 48), (8, yX8_firstOver, cX8_firstOver, 3, (some .int), 1, 1, 520, 518, 519, 48), (8, yX8_isOverBehind, cX8_isOverBehind, 7, (some .boolean), 1, 3, 525, 524, 3, 48), (8, yX8_talliedFor, cX8_talliedFor, 4, (some .int), 1, 2, 529, 528, 4, 48), (9, yX9_init, cX9_init, 1, none, 2, 0, 113, 112, 0, 50), (9, yX9_between, cX9_between, 3, (some .int), 1, 2, 585, 583, 584, 50), (9, yX9_clear, cX9_clear, 2, none, 1, 0, 541, 539, 540, 50), (9, yX9_shorten, cX9_shorten, 5, none, 1, 3, 547, 545, 546, 50), (9, yX9_joinWays, cX9_joinWays, 3, none, 1, 0, 577, 575, 576, 50), (9, yX9_joinThrough, cX9_joinThrough, 5, none, 1, 2, 581, 580, 6, 50), (9, yX9_takeWithBond, cX9_takeWithBond, 6, none, 1, 3, 639, 637, 638, 50)]
def sm_mt3 : List sm_MT := [(9, yX9_areWithin, cX9_areWithin, 3, (some .boolean), 1, 1, 611, 609, 610, 50), (9, yX9_areWithinWithBond, cX9_areWithinWithBond, 6, (some .boolean), 1, 3, 623, 621, 622, 50), (9, yX9_betweenWithBond, cX9_betweenWithBond, 7, (some .int), 1, 4, 627, 626, 8, 50), (10, yX10_init, cX10_init, 1, none, 2, 0, 66, 65, 0, 46), (10, yX10_road, cX10_road, 4, (some .int), 1, 3, 293, 291, 292, 46), (10, yX10_town, cX10_town, 4, (some .int), 1, 2, 307, 305, 306, 46), (10, yX10_letters, cX10_letters, 3, (some .int), 1, 1, 314, 312, 313, 46), (10, yX10_blank, cX10_blank, 2, (some .int), 1, 0, 329, 327, 328, 46), (10, yX10_fault, cX10_fault, 1, (some .int), 1, 0, 341, 339, 340, 46), (10, yX10_births, cX10_births, 2, (some .int), 1, 0, 395, 393, 394, 46), (10, yX10_birth, cX10_birth, 4, (some .int), 1, 2, 415, 413, 414, 46), (10, yX10_as, cX10_as, 4, (some .int), 1, 2, 428, 426, 427, 46), (10, yX10_about, cX10_about, 3, (some .int), 1, 2, 436, 434, 435, 46), (10, yX10_touch, cX10_touch, 3, (some .int), 1, 2, 448, 446, 447, 46), (10, yX10_forget, cX10_forget, 2, (some .int), 1, 0, 456, 454, 455, 46), (10, yX10_felt, cX10_felt, 4, (some .int), 1, 3, 464, 462, 463, 46), (10, yX10_surely, cX10_surely, 10, (some .long), 1, 4, 489, 487, 488, 46), (10, yX10_over, cX10_over, 1, (some .int), 1, 0, 516, 514, 515, 46), (10, yX10_soonest, cX10_soonest, 3, (some .int), 1, 2, 533, 531, 532, 46), (10, yX10_unseen, cX10_unseen, 4, (some .int), 1, 3, 595, 593, 594, 46), (10, yX10_kept, cX10_kept, 4, (some .int), 1, 2, 602, 600, 601, 46), (10, yX10_words, cX10_words, 4, (some .int), 1, 3, 647, 645, 646, 46), (10, yX10_least, cX10_least, 5, (some .int), 1, 3, 657, 655, 656, 46), (10, yX10_missed, cX10_missed, 4, (some .int), 1, 3, 662, 660, 661, 46), (10, yX10_book, cX10_book, 2, (some .int), 1, 1, 693, 691, 692, 46), (10, yX10_read, cX10_read, 7, (some .long), 1, 4, 705, 703, 704, 46), (10, yX10_crowd, cX10_crowd, 3, (some .int), 1, 1, 729, 727, 728, 46), (10, yX10_wince, cX10_wince, 3, (some .int), 1, 2, 741, 739, 740, 46), (10, yX10_pairings, cX10_pairings, 1, (some .int), 1, 0, 749, 747, 748, 46), (10, yX10_twin, cX10_twin, 2, (some .int), 1, 1, 770, 768, 769, 46)]
def sm_mt4 : List sm_MT := [(10, yX10_round, cX10_round, 4, (some .long), 1, 3, 779, 777, 778, 46), (10, yX10_image, cX10_image, 1, (some .int), 1, 0, 783, 781, 782, 46), (10, yX10_restore, cX10_restore, 1, (some .int), 1, 0, 809, 807, 808, 46), (10, yX10_count, cX10_count, 2, (some .int), 1, 1, 821, 819, 820, 46), (10, yX10_digest, cX10_digest, 4, (some .long), 1, 0, 833, 831, 832, 46), (10, yX10_mixBirths, cX10_mixBirths, 7, (some .long), 1, 1, 838, 837, 14, 46), (10, yX10_mixPeople, cX10_mixPeople, 7, (some .long), 1, 1, 847, 846, 15, 46), (10, yX10_mixNews, cX10_mixNews, 7, (some .long), 1, 1, 854, 853, 16, 46), (10, yX10_mixBook, cX10_mixBook, 6, (some .long), 1, 1, 858, 857, 17, 46), (10, yX10_mixCrowd, cX10_mixCrowd, 6, (some .long), 1, 1, 863, 862, 18, 46), (10, yX10_mixPage, cX10_mixPage, 6, (some .long), 1, 1, 867, 866, 19, 46), (10, yX10_mix, cX10_mix, 4, (some .long), 0, 2, 842, 841, 0, 46), (10, yX10_isWithin, cX10_isWithin, 3, (some .boolean), 0, 3, 299, 298, 0, 46), (10, yX10_isPerson, cX10_isPerson, 1, (some .boolean), 0, 1, 310, 309, 0, 46), (10, yX10_isTown, cX10_isTown, 1, (some .boolean), 0, 1, 296, 295, 0, 46), (10, yX10_isSpan, cX10_isSpan, 2, (some .boolean), 0, 2, 467, 466, 0, 46), (10, yX10_isPart, cX10_isPart, 1, (some .boolean), 0, 1, 493, 492, 0, 46), (10, yX10_isOdds, cX10_isOdds, 1, (some .boolean), 0, 1, 712, 711, 0, 46), (10, yX10_isSetOf, cX10_isSetOf, 2, (some .boolean), 0, 2, 598, 597, 0, 46), (10, yX10_arePinches, cX10_arePinches, 2, (some .boolean), 0, 2, 650, 649, 0, 46), (10, yX10_isIn, cX10_isIn, 2, (some .boolean), 0, 2, 562, 561, 0, 46), (10, yX10_wordsOf, cX10_wordsOf, 6, (some .int), 0, 3, 653, 652, 0, 46), (10, yX10_power, cX10_power, 6, (some .long), 0, 2, 498, 497, 0, 46), (10, yX10_inLowestTerms, cX10_inLowestTerms, 9, (some .long), 0, 3, 509, 508, 0, 46), (10, yX10_commonDivisor, cX10_commonDivisor, 11, (some .long), 0, 2, 512, 511, 0, 46), (11, yX11_init, cX11_init, 2, none, 2, 0, 874, 873, 0, 58), (11, yX11_in, cX11_in, 6, (some .boolean), 0, 3, 992, 991, 0, 58), (11, yX11_isTown, cX11_isTown, 1, (some .boolean), 0, 1, 988, 987, 0, 58), (11, yX11_isPerson, cX11_isPerson, 1, (some .boolean), 0, 1, 1000, 999, 0, 58), (11, yX11_road, cX11_road, 5, (some .int), 1, 3, 985, 983, 984, 58)]
def sm_mt5 : List sm_MT := [(11, yX11_town, cX11_town, 4, (some .int), 1, 2, 997, 995, 996, 58), (11, yX11_letters, cX11_letters, 9, (some .int), 1, 1, 1005, 1003, 1004, 58), (11, yX11_blank, cX11_blank, 2, (some .int), 1, 0, 1010, 1008, 1009, 58), (11, yX11_goPerson, cX11_goPerson, 6, (some .boolean), 1, 1, 1026, 1025, 22, 58), (11, yX11_isBirth, cX11_isBirth, 2, (some .boolean), 1, 0, 1032, 1031, 23, 58), (11, yX11_go, cX11_go, 4, (some .boolean), 1, 1, 1022, 1021, 21, 58), (11, yX11_faultOf, cX11_faultOf, 2, (some .int), 1, 0, 1018, 1017, 20, 58), (11, yX11_fault, cX11_fault, 1, (some .int), 1, 0, 1014, 1012, 1013, 58), (11, yX11_births, cX11_births, 2, (some .int), 1, 0, 1036, 1034, 1035, 58), (11, yX11_birth, cX11_birth, 3, (some .int), 1, 2, 1040, 1038, 1039, 58), (11, yX11_as, cX11_as, 5, (some .int), 1, 2, 1045, 1043, 1044, 58), (11, yX11_touchedBy, cX11_touchedBy, 5, (some .int), 1, 2, 1058, 1057, 25, 58), (11, yX11_tellPerson, cX11_tellPerson, 3, (some .int), 1, 2, 1054, 1053, 24, 58), (11, yX11_about, cX11_about, 3, (some .int), 1, 2, 1050, 1048, 1049, 58), (11, yX11_touch, cX11_touch, 3, (some .int), 1, 2, 1062, 1060, 1061, 58), (11, yX11_forget, cX11_forget, 2, (some .int), 1, 0, 1067, 1065, 1066, 58), (11, yX11_placeIn, cX11_placeIn, 5, (some .int), 1, 2, 1087, 1086, 28, 58), (11, yX11_lateBy, cX11_lateBy, 7, (some .int), 1, 2, 1083, 1082, 27, 58), (11, yX11_feltOf, cX11_feltOf, 8, (some .int), 1, 4, 1079, 1078, 26, 58), (11, yX11_areMinutes, cX11_areMinutes, 2, (some .boolean), 0, 2, 1074, 1073, 0, 58), (11, yX11_felt, cX11_felt, 4, (some .int), 1, 3, 1071, 1069, 1070, 58), (11, yX11_term, cX11_term, 11, (some .long), 0, 3, 1099, 1098, 0, 58), (11, yX11_isPart, cX11_isPart, 1, (some .boolean), 0, 1, 1095, 1094, 0, 58), (11, yX11_surely, cX11_surely, 12, (some .long), 1, 4, 1091, 1089, 1090, 58), (11, yX11_isOver, cX11_isOver, 7, (some .boolean), 1, 1, 1112, 1111, 30, 58), (11, yX11_overOf, cX11_overOf, 2, (some .int), 1, 0, 1108, 1107, 29, 58), (11, yX11_over, cX11_over, 1, (some .int), 1, 0, 1104, 1102, 1103, 58), (11, yX11_mayCome, cX11_mayCome, 4, none, 1, 3, 1129, 1128, 33, 58), (11, yX11_layTouch, cX11_layTouch, 8, none, 1, 2, 1125, 1124, 32, 58), (11, yX11_layWays, cX11_layWays, 3, none, 1, 1, 1120, 1119, 31, 58)]
def sm_mt6 : List sm_MT := [(11, yX11_closeWays, cX11_closeWays, 4, none, 1, 0, 1133, 1132, 34, 58), (11, yX11_soonestNow, cX11_soonestNow, 4, (some .int), 1, 2, 1137, 1136, 35, 58), (11, yX11_soonest, cX11_soonest, 3, (some .int), 1, 2, 1116, 1114, 1115, 58), (11, yX11_unseen, cX11_unseen, 4, (some .int), 1, 3, 1141, 1139, 1140, 58), (11, yX11_isSoon, cX11_isSoon, 6, (some .boolean), 1, 3, 1151, 1150, 36, 58), (11, yX11_tellPairs, cX11_tellPairs, 5, (some .int), 0, 4, 1154, 1153, 0, 58), (11, yX11_kept, cX11_kept, 5, (some .int), 1, 2, 1146, 1144, 1145, 58), (11, yX11_areWords, cX11_areWords, 2, (some .boolean), 0, 2, 1162, 1161, 0, 58), (11, yX11_ones, cX11_ones, 3, (some .int), 0, 1, 1168, 1167, 0, 58), (11, yX11_manyWords, cX11_manyWords, 7, (some .int), 0, 3, 1165, 1164, 0, 58), (11, yX11_words, cX11_words, 4, (some .int), 1, 3, 1158, 1156, 1157, 58), (11, yX11_least, cX11_least, 5, (some .int), 1, 3, 1172, 1170, 1171, 58), (11, yX11_missed, cX11_missed, 9, (some .int), 1, 3, 1177, 1175, 1176, 58), (11, yX11_book, cX11_book, 3, (some .int), 1, 1, 1181, 1179, 1180, 58), (11, yX11_likely, cX11_likely, 6, (some .long), 0, 3, 1188, 1187, 0, 58), (11, yX11_read, cX11_read, 8, (some .long), 1, 4, 1185, 1183, 1184, 58), (11, yX11_crowd, cX11_crowd, 3, (some .int), 1, 1, 1193, 1191, 1192, 58), (11, yX11_wince, cX11_wince, 3, (some .int), 1, 2, 1197, 1195, 1196, 58), (11, yX11_layPairing, cX11_layPairing, 8, none, 1, 1, 1209, 1208, 38, 58), (11, yX11_isSo, cX11_isSo, 3, (some .boolean), 1, 0, 1213, 1212, 39, 58), (11, yX11_pairingsOf, cX11_pairingsOf, 5, (some .int), 1, 0, 1205, 1204, 37, 58), (11, yX11_pairings, cX11_pairings, 1, (some .int), 1, 0, 1201, 1199, 1200, 58), (11, yX11_twinNow, cX11_twinNow, 4, (some .int), 1, 1, 1221, 1220, 40, 58), (11, yX11_twin, cX11_twin, 3, (some .int), 1, 1, 1217, 1215, 1216, 58), (11, yX11_round, cX11_round, 9, (some .long), 1, 3, 1225, 1223, 1224, 58), (11, yX11_image, cX11_image, 2, (some .int), 1, 0, 1230, 1228, 1229, 58), (11, yX11_restore, cX11_restore, 2, (some .int), 1, 0, 1234, 1232, 1233, 58), (11, yX11_roadMany, cX11_roadMany, 3, (some .int), 1, 0, 1246, 1245, 42, 58), (11, yX11_countOf, cX11_countOf, 2, (some .int), 1, 1, 1242, 1241, 41, 58), (11, yX11_count, cX11_count, 2, (some .int), 1, 1, 1238, 1236, 1237, 58)]
def sm_mt7 : List sm_MT := [(11, yX11_say, cX11_say, 3, none, 1, 1, 1255, 1254, 43, 58), (11, yX11_sayNews, cX11_sayNews, 2, none, 1, 0, 1260, 1259, 44, 58), (11, yX11_digest, cX11_digest, 3, (some .long), 1, 0, 1250, 1248, 1249, 58), (12, yJ6_bitCount_0f7a4, cJ6_bitCount_0f7a4, 1, (some .int), 0, 1, 673, 672, 0, 60), (13, yJ9_min_7cf53, cJ9_min_7cf53, 2, (some .int), 0, 2, 551, 550, 0, 59), (14, yJ7_fill_53178, cJ7_fill_53178, 4, none, 0, 2, 242, 241, 0, 57), (15, yL_law, cL_law, 4, (some .boolean), 0, 1, 0, 0, 0, 0)]
def sm_mt : List sm_MT := sm_mt0 ++ (sm_mt1 ++ (sm_mt2 ++ (sm_mt3 ++ (sm_mt4 ++ (sm_mt5 ++ (sm_mt6 ++ (sm_mt7)))))))
def sm_m (i : Nat) : sm_MT := sm_mt.getD i (0, yX0_init, cX0_init, 1, none, 2, 0, 0, 0, 0, 0)
def sm_o (i : Nat) : Nat := (sm_m i).1
def sm_y (i : Nat) : MethodName := (sm_m i).2.1
def sm_b (i : Nat) : ByteArray := (sm_m i).2.2.1
def sm_ml (i : Nat) : Nat := (sm_m i).2.2.2.1
def sm_rt (i : Nat) : Option FieldType := (sm_m i).2.2.2.2.1
def sm_kd (i : Nat) : Nat := (sm_m i).2.2.2.2.2.1
def sm_np (i : Nat) : Nat := (sm_m i).2.2.2.2.2.2.1
def sm_flT : List (Nat × Nat × Nat × Nat × Nat) := [(5, 11, 5, 0, 76), (5, 15, 5, 1, 77), (8, 11, 8, 0, 90), (8, 15, 8, 1, 91), (8, 18, 8, 2, 92), (8, 21, 8, 3, 93), (9, 9, 9, 0, 115), (4, 9, 4, 0, 119), (4, 18, 4, 1, 120), (4, 22, 4, 2, 121), (4, 25, 4, 3, 122), (1, 11, 1, 0, 138), (1, 15, 1, 1, 139), (2, 11, 2, 0, 151), (2, 15, 2, 1, 152), (2, 18, 2, 2, 153), (2, 21, 2, 3, 154), (2, 24, 2, 4, 155), (2, 28, 2, 5, 156), (7, 7, 7, 0, 176), (7, 13, 7, 1, 177), (7, 17, 7, 2, 178), (3, 12, 3, 0, 198), (3, 18, 3, 1, 199), (3, 25, 3, 2, 200), (3, 32, 3, 3, 201), (3, 36, 3, 4, 202), (0, 11, 0, 0, 227), (0, 15, 0, 1, 228), (0, 19, 0, 2, 229), (0, 22, 0, 3, 230), (6, 13, 6, 0, 243), (6, 17, 6, 1, 244), (6, 28, 6, 2, 245), (10, 10, 10, 0, 253), (10, 19, 10, 1, 254), (10, 26, 10, 2, 255), (10, 33, 10, 3, 256), (10, 40, 10, 4, 257), (10, 47, 10, 5, 258), (10, 54, 10, 6, 259), (10, 58, 10, 7, 260), (10, 65, 10, 8, 261), (10, 69, 10, 9, 262), (10, 110, 10, 10, 263), (10, 181, 10, 11, 264), (11, 7, 11, 0, 876), (11, 13, 11, 1, 877), (11, 16, 11, 2, 878), (11, 87, 11, 3, 879), (11, 90, 11, 4, 880), (11, 93, 11, 5, 881), (11, 96, 11, 6, 882), (11, 19, 11, 7, 883), (11, 117, 11, 8, 884), (11, 123, 11, 9, 885), (11, 22, 11, 10, 886), (11, 25, 11, 11, 887), (11, 120, 11, 12, 888), (11, 28, 11, 13, 889), (11, 31, 11, 14, 890), (11, 197, 11, 15, 891), (11, 34, 11, 16, 892), (11, 222, 11, 17, 893), (11, 37, 11, 18, 894), (11, 65, 11, 19, 895), (11, 234, 11, 20, 896), (11, 231, 11, 21, 897), (11, 40, 11, 22, 898), (11, 43, 11, 23, 899), (11, 46, 11, 24, 900), (11, 61, 11, 25, 901), (11, 257, 11, 26, 902), (11, 260, 11, 27, 903), (11, 251, 11, 28, 904), (11, 254, 11, 29, 905), (11, 49, 11, 30, 906), (11, 52, 11, 31, 907), (11, 55, 11, 32, 908), (11, 58, 11, 33, 909), (11, 271, 11, 34, 910)]
def sm_stT : List (Nat × Nat × Nat × Nat) := [(4, 92, 0, 616), (4, 95, 1, 618)]
def sm_caT : List (Nat × Nat × Nat × Nat × Nat) := [(15, 9, 93, 64, 0), (10, 64, 56, 216, 0), (6, 22, 215, 240, 0), (15, 13, 94, 290, 0), (10, 72, 134, 294, 0), (10, 76, 132, 297, 0), (10, 80, 39, 300, 0), (15, 18, 95, 304, 0), (10, 84, 133, 308, 0), (15, 25, 96, 311, 0), (10, 87, 53, 315, 0), (5, 19, 54, 319, 0), (5, 23, 55, 322, 0), (15, 30, 97, 326, 0), (10, 91, 50, 330, 0), (10, 95, 52, 334, 0), (15, 35, 98, 338, 0), (10, 98, 57, 342, 0), (6, 32, 64, 346, 0), (6, 72, 1, 350, 0), (6, 36, 50, 354, 0), (6, 42, 51, 355, 0), (6, 46, 65, 359, 0), (6, 50, 60, 363, 0), (6, 54, 6, 367, 0), (6, 75, 2, 371, 0), (6, 78, 66, 375, 0), (6, 82, 3, 380, 0), (6, 85, 4, 384, 0), (6, 88, 5, 388, 0), (15, 39, 99, 392, 0), (10, 102, 58, 396, 0), (10, 106, 75, 400, 0), (10, 107, 35, 404, 0), (10, 114, 59, 408, 0), (15, 43, 100, 412, 0), (10, 115, 60, 416, 0), (10, 121, 10, 417, 0), (0, 25, 11, 421, 0), (15, 47, 101, 425, 0), (10, 125, 7, 429, 0), (15, 51, 102, 433, 0), (10, 128, 61, 437, 0), (10, 131, 78, 441, 0), (15, 55, 103, 445, 0), (10, 134, 76, 449, 0), (15, 59, 104, 453, 0), (10, 138, 74, 457, 0), (15, 63, 105, 461, 0), (10, 139, 135, 465, 0), (10, 143, 79, 468, 0), (8, 31, 63, 472, 0), (6, 60, 61, 476, 0), (6, 65, 12, 477, 0), (6, 68, 14, 481, 0), (15, 67, 106, 486, 0), (10, 149, 136, 491, 0), (10, 156, 142, 496, 0), (10, 160, 62, 499, 0), (6, 62, 9, 503, 0), (10, 163, 143, 507, 0), (10, 297, 144, 510, 0), (15, 72, 107, 513, 0), (10, 167, 80, 517, 0), (8, 41, 215, 521, 0), (8, 47, 81, 522, 0), (8, 51, 82, 526, 0), (15, 76, 108, 530, 0), (10, 171, 41, 534, 0), (4, 28, 85, 538, 0), (9, 20, 215, 543, 0), (9, 26, 86, 544, 0), (9, 30, 214, 549, 0), (4, 31, 86, 552, 0), (4, 35, 59, 553, 0), (4, 41, 60, 554, 0), (4, 45, 7, 555, 0), (4, 51, 13, 556, 0), (4, 54, 42, 563, 0), (4, 61, 8, 567, 0), (4, 62, 11, 571, 0), (4, 69, 14, 573, 0), (4, 58, 87, 574, 0), (9, 36, 88, 578, 0), (9, 40, 84, 582, 0), (10, 175, 43, 586, 0), (4, 73, 84, 590, 0), (15, 80, 109, 592, 0), (10, 178, 138, 596, 0), (15, 84, 110, 599, 0), (10, 184, 45, 603, 0), (4, 77, 215, 607, 0), (4, 83, 90, 608, 0), (4, 86, 46, 612, 0), (4, 98, 91, 620, 0), (9, 43, 92, 624, 0), (4, 102, 48, 628, 0), (4, 89, 47, 632, 0), (4, 106, 89, 636, 0), (10, 187, 44, 640, 0), (15, 88, 111, 644, 0), (10, 190, 139, 648, 0), (10, 193, 141, 651, 0), (15, 92, 112, 654, 0), (15, 96, 113, 659, 0), (10, 197, 70, 663, 0), (7, 20, 214, 667, 0), (7, 26, 71, 668, 0), (7, 34, 213, 671, 0), (7, 30, 72, 677, 0), (10, 201, 68, 682, 0), (10, 204, 69, 686, 0), (15, 100, 114, 690, 0), (10, 207, 18, 694, 0), (1, 19, 17, 698, 0), (15, 105, 115, 702, 0), (10, 209, 16, 706, 0), (10, 210, 137, 710, 0), (10, 213, 21, 713, 0), (1, 40, 20, 717, 0), (1, 29, 213, 721, 0), (10, 219, 20, 725, 0), (15, 109, 116, 726, 0), (10, 223, 23, 730, 0), (10, 224, 25, 734, 0), (15, 113, 117, 738, 0), (10, 228, 26, 742, 0), (15, 117, 118, 746, 0), (10, 229, 28, 750, 0), (2, 37, 215, 754, 0), (2, 43, 30, 755, 0), (2, 53, 32, 759, 0), (2, 60, 31, 763, 0), (15, 121, 119, 767, 0), (10, 232, 29, 771, 0), (2, 47, 213, 775, 0), (15, 125, 120, 776, 0), (15, 130, 121, 780, 0), (10, 235, 36, 784, 0), (3, 40, 77, 788, 0), (3, 50, 19, 796, 0), (3, 53, 27, 801, 0), (15, 134, 122, 806, 0), (10, 239, 34, 810, 0), (10, 242, 37, 814, 0), (15, 138, 123, 818, 0), (10, 245, 40, 822, 0), (10, 248, 24, 826, 0), (15, 142, 124, 830, 0), (10, 253, 125, 835, 0), (10, 282, 100, 839, 0), (10, 263, 131, 840, 0), (10, 257, 126, 844, 0), (10, 285, 102, 848, 0), (10, 288, 105, 849, 0), (10, 260, 107, 850, 0), (10, 267, 127, 851, 0), (10, 270, 128, 855, 0), (10, 291, 17, 859, 0), (10, 273, 129, 860, 0), (10, 276, 130, 864, 0), (10, 294, 51, 868, 0), (10, 279, 123, 869, 0), (15, 12, 145, 872, 0), (15, 17, 149, 982, 0), (11, 76, 147, 986, 0), (11, 70, 146, 990, 0), (15, 22, 150, 994, 0), (11, 82, 148, 998, 0), (15, 29, 151, 1002, 0), (15, 34, 152, 1007, 0), (15, 38, 157, 1011, 0), (11, 113, 156, 1015, 0), (11, 110, 155, 1019, 0), (11, 99, 153, 1023, 0), (11, 106, 154, 1029, 0), (15, 42, 158, 1033, 0), (15, 46, 159, 1037, 0), (15, 50, 160, 1042, 0), (15, 54, 163, 1047, 0), (11, 134, 162, 1051, 0), (11, 130, 161, 1055, 0), (15, 58, 164, 1059, 0), (15, 62, 165, 1064, 0), (15, 66, 170, 1068, 0), (11, 147, 169, 1072, 0), (11, 151, 168, 1076, 0), (11, 142, 167, 1080, 0), (11, 139, 166, 1084, 0), (15, 71, 173, 1088, 0), (11, 157, 172, 1093, 0), (11, 162, 171, 1097, 0), (15, 75, 176, 1101, 0), (11, 171, 175, 1105, 0), (11, 168, 174, 1109, 0), (15, 79, 182, 1113, 0), (11, 183, 179, 1117, 0), (11, 179, 178, 1122, 0), (11, 174, 177, 1126, 0), (11, 187, 180, 1130, 0), (11, 190, 181, 1134, 0), (15, 83, 183, 1138, 0), (15, 87, 186, 1143, 0), (11, 200, 184, 1148, 0), (11, 204, 185, 1152, 0), (15, 91, 190, 1155, 0), (11, 213, 187, 1160, 0), (11, 216, 189, 1163, 0), (11, 209, 188, 1166, 0), (15, 95, 191, 1169, 0), (15, 99, 192, 1174, 0), (15, 104, 193, 1178, 0), (15, 108, 195, 1182, 0), (11, 225, 194, 1186, 0), (15, 112, 196, 1190, 0), (15, 116, 197, 1194, 0), (15, 120, 201, 1198, 0), (11, 243, 200, 1202, 0), (11, 237, 198, 1206, 0), (11, 240, 199, 1210, 0), (15, 124, 203, 1214, 0), (11, 246, 202, 1218, 0), (15, 129, 204, 1222, 0), (15, 133, 205, 1227, 0), (15, 137, 206, 1231, 0), (15, 141, 209, 1235, 0), (11, 266, 208, 1239, 0), (11, 263, 207, 1243, 0), (15, 146, 212, 1247, 0), (11, 275, 210, 1252, 0), (11, 281, 211, 1257, 0), (10, 9, 49, 72, 1), (10, 18, 73, 86, 1), (10, 25, 38, 105, 1), (4, 17, 83, 111, 1), (10, 32, 15, 134, 1), (10, 39, 22, 147, 1), (10, 46, 67, 172, 1), (10, 53, 33, 188, 1), (3, 11, 73, 193, 1), (3, 24, 15, 195, 1), (3, 31, 22, 197, 1), (6, 21, 0, 223, 1), (6, 57, 133, 379, 1), (8, 37, 132, 485, 1), (9, 15, 134, 548, 1), (0, 29, 140, 560, 1), (4, 66, 133, 572, 1), (7, 40, 140, 681, 1), (1, 34, 142, 722, 1), (2, 56, 140, 762, 1)]
def sm_obT : List (Nat × Nat × Nat) := [(10, 1, 67), (5, 3, 75), (8, 3, 89), (4, 3, 108), (9, 3, 114), (1, 3, 137), (2, 3, 150), (7, 1, 175), (3, 3, 191), (6, 3, 219), (0, 3, 226), (11, 1, 875)]
def sm_acT : List (Nat × Nat × Nat) := [(8, 25, 792), (3, 44, 795), (1, 23, 800), (2, 31, 805)]
def sm_kiT : List (Nat × Nat × Int32 × Nat) := [(9, 19, 100000, 542), (4, 76, 100000, 591), (10, 196, 99999, 658), (12, 265, 1431655765, 674), (12, 266, 858993459, 675), (12, 267, 252645135, 676), (11, 178, 1000000, 1121)]
def sm_klT : List (Nat × Nat × Int64 × Nat) := [(5, 27, 255, 325), (10, 147, -101, 490), (10, 152, -102, 494), (10, 154, 10, 495), (1, 38, 10, 723), (10, 217, -1, 724), (10, 251, 577, 834), (10, 295, 31, 843), (11, 68, 5, 989), (11, 80, 99, 993), (11, 74, 9, 1001), (11, 85, 255, 1006), (11, 102, 49, 1027), (11, 104, 57, 1028), (11, 126, 6, 1041), (11, 128, 3, 1046), (11, 137, 999, 1063), (11, 145, 1999, 1075), (11, 155, -101, 1092), (11, 160, -102, 1096), (11, 166, 10, 1100), (11, 193, 1023, 1142), (11, 195, 4, 1147), (11, 207, 8, 1159), (11, 220, 99999, 1173), (11, 229, -1, 1189), (11, 249, 2, 1226), (11, 279, 577, 1251), (11, 269, 31, 1256), (15, 23, 4294967295, 1261)]
def sm_nwT : List (Nat × Nat × Nat × Nat) := [(15, 7, 10, 62), (10, 7, 5, 70), (10, 16, 8, 84), (10, 23, 4, 103), (4, 15, 9, 109), (10, 30, 1, 132), (10, 37, 2, 145), (10, 44, 7, 170), (10, 51, 3, 186), (3, 9, 8, 192), (3, 22, 1, 194), (3, 29, 2, 196), (10, 62, 6, 214), (6, 11, 0, 220), (15, 10, 11, 870)]
def sm_fkT : List (List Nat) := [[3, 0, 0, 0], [3, 0], [3, 3, 3, 3, 0, 0], [3, 3, 3, 3, 1], [3, 3, 3, 3], [3, 0], [3, 3, 0], [3, 0, 0], [3, 3, 3, 0], [3], [3, 3, 3, 3, 3, 3, 3, 3, 3, 3, 0, 0], [3, 3, 3, 0, 0, 0, 0, 3, 0, 0, 3, 3, 0, 3, 3, 0, 3, 0, 3, 0, 0, 0, 3, 3, 3, 0, 0, 0, 0, 0, 3, 3, 3, 3, 2]]
def sm_ffT : List (List Bool) := [[true, false, false, false], [true, false], [true, true, true, true, false, false], [true, true, true, true, false], [true, true, true, true], [true, false], [true, true, false], [true, false, false], [true, true, true, false], [true], [true, true, true, true, true, true, true, true, false, false, false, false], [true, true, true, false, false, false, false, true, false, false, true, true, false, true, true, false, true, false, true, false, false, false, true, true, true, false, false, false, false, false, true, true, true, true, false]]
def sm_inT : List Nat := [222, 133, 146, 187, 104, 71, 215, 171, 85, 110, 63, 871]
def sm_ipT : List Nat := [56, 51, 52, 54, 49, 47, 55, 53, 48, 50, 46, 58]
def sm_lpT : List (List Nat) := [[231, 233, 235, 237], [140, 142], [157, 159, 161, 163, 165, 167], [203, 205, 207, 209, 211], [123, 125, 127, 129], [78, 80], [246, 248, 250], [179, 181, 183], [94, 96, 98, 100], [116], [265, 267, 269, 271, 273, 275, 277, 279, 281, 283, 285, 287], [911, 913, 915, 917, 919, 921, 923, 925, 927, 929, 931, 933, 935, 937, 939, 941, 943, 945, 947, 949, 951, 953, 955, 957, 959, 961, 963, 965, 967, 969, 971, 973, 975, 977, 979]]
def sm_nf (c : Nat) : Nat := (sm_fkT.getD c []).length
def sm_fk (c k : Nat) : Nat := (sm_fkT.getD c []).getD k 9
def sm_ff (c k : Nat) : Bool := (sm_ffT.getD c []).getD k false
abbrev sm_Sh : Type := Nat ⊕ (Nat ⊕ Nat)
def sm_laL : List sm_Sh := [.inl 10, .inl 5, .inr (.inl 32), .inl 8, .inr (.inl 12), .inr (.inl 12), .inr (.inl 110), .inl 4, .inr (.inl 36), .inl 9, .inr (.inl 36), .inl 9, .inr (.inl 36), .inr (.inl 4), .inl 1, .inr (.inl 4), .inl 2, .inr (.inl 8), .inr (.inl 8), .inr (.inl 8), .inr (.inl 8), .inl 7, .inr (.inl 16), .inl 3, .inl 8, .inr (.inl 12), .inr (.inl 12), .inr (.inl 110), .inr (.inl 10), .inl 1, .inr (.inl 4), .inl 2, .inr (.inl 8), .inr (.inl 8), .inr (.inl 8), .inr (.inl 8), .inr (.inl 10), .inl 6, .inr (.inr 5), .inr (.inl 10), .inl 0, .inr (.inl 4), .inl 0, .inr (.inl 4), .inl 0, .inr (.inl 4), .inl 0, .inr (.inl 4), .inl 0, .inr (.inl 4), .inl 6, .inr (.inr 5), .inr (.inl 10), .inl 0, .inr (.inl 4), .inl 0, .inr (.inl 4), .inl 0, .inr (.inl 4), .inl 0, .inr (.inl 4), .inl 0, .inr (.inl 4), .inl 11, .inr (.inl 36), .inr (.inl 10), .inr (.inl 32), .inr (.inl 35), .inr (.inl 35), .inr (.inl 10), .inr (.inl 24), .inr (.inl 36), .inr (.inl 16), .inr (.inl 4), .inr (.inl 16), .inr (.inl 8), .inr (.inl 8), .inr (.inl 24), .inr (.inl 10), .inr (.inl 4), .inr (.inl 16)]
def sm_lay (k : Nat) : sm_Sh := sm_laL.getD k (.inr (.inl 0))
def sm_fi2 {α : Type} (l : List (Nat × Nat × α)) (o x : Nat) : Option α := (l.find? (fun q => q.1 == o && q.2.1 == x)).map (fun q => q.2.2)
def sm_fld (o x : Nat) : Option (Nat × Nat × Nat) := sm_fi2 sm_flT o x
def sm_stf (o x : Nat) : Option (Nat × Nat) := sm_fi2 sm_stT o x
def sm_cal (o x : Nat) : Option (Nat × Nat × Nat) := sm_fi2 sm_caT o x
def sm_ob (o x : Nat) : Option Nat := sm_fi2 sm_obT o x
def sm_ac (o x : Nat) : Option Nat := sm_fi2 sm_acT o x
def sm_ki (o x : Nat) : Option (Int32 × Nat) := sm_fi2 sm_kiT o x
def sm_kl (o x : Nat) : Option (Int64 × Nat) := sm_fi2 sm_klT o x
def sm_nw (o x : Nat) : Option (Nat × Nat) := sm_fi2 sm_nwT o x
def sm_taL : List (List Int32) := [[0, 0, 0, 0, 0, 1, 1, 1, 1, 2, 2, 2, 3, 3, 4], [1, 2, 3, 4, 5, 2, 3, 4, 5, 3, 4, 5, 4, 5, 5]]
def sm_tab (t j : Nat) : Int32 := (sm_taL.getD t []).getD j 0
theorem sm_fi2_mem {α : Type} {l : List (Nat × Nat × α)} {o x : Nat} {a : α} (h : sm_fi2 l o x = some a) : (o, x, a) ∈ l := by
  unfold sm_fi2 at h
  cases hf : l.find? (fun q => q.1 == o && q.2.1 == x) with
  | none => rw [hf] at h; cases h
  | some q =>
    rw [hf] at h
    have h1 := List.find?_some hf
    have h2 := List.mem_of_find?_eq_some hf
    simp only [Bool.and_eq_true, beq_iff_eq] at h1
    obtain ⟨q1, q2, q3⟩ := q
    simp only [Option.map_some, Option.some.injEq] at h
    obtain ⟨rfl, rfl⟩ := h1
    subst h
    exact h2
end
section
/-! what the tables say is so: each row of them against the words of the claim -/
def sm_W : List Cond := lw_tbl.filter goodWord
def sm_wd (i : Nat) (w : Cond) : Bool := decide (lw_tbl[i]? = some w) && goodWord w
theorem sm_wd_in {i : Nat} {w : Cond} (h : sm_wd i w = true) : w ∈ sm_W := by
  unfold sm_wd at h
  rw [Bool.and_eq_true, decide_eq_true_eq] at h
  exact List.mem_filter.mpr ⟨List.mem_of_getElem? h.1, h.2⟩
def sm_mOk (r : sm_MT) : Bool :=
  sm_wd r.2.2.2.2.2.2.2.1 (.code r.2.1 r.2.2.1 r.2.2.2.1 r.2.2.2.2.1) &&
  (if r.2.2.2.2.2.1 = 0 then sm_wd r.2.2.2.2.2.2.2.2.1 (.static r.2.1) else sm_wd r.2.2.2.2.2.2.2.2.1 (.instanceMethod r.2.1)) &&
  (if r.2.2.2.2.2.1 = 1 then sm_wd r.2.2.2.2.2.2.2.2.2.1 (.selects r.2.1.cls r.2.1 r.2.1) else true) &&
  sm_wd r.2.2.2.2.2.2.2.2.2.2 (.initialized r.2.1.cls) && decide (r.2.1.cls = sm_cn r.1) && plainFor r.2.1 &&
  decide (r.2.1.cls ≠ "java/lang/invoke/MethodHandle" ∧ r.2.1.cls ≠ "java/lang/invoke/VarHandle" ∧ (parseMethodDescriptor r.2.1.desc).map (fun d => d.parameters.length) = some r.2.2.2.2.2.2.1) &&
  (if r.2.2.2.2.2.1 = 2 then decide (r.2.1.name = "<init>" ∧ r.2.2.2.2.1 = none) else true)
set_option maxRecDepth 100000 in
theorem sm_mt0_ok : sm_mt0.all sm_mOk = true := by decide +kernel
set_option maxRecDepth 100000 in
theorem sm_mt1_ok : sm_mt1.all sm_mOk = true := by decide +kernel
set_option maxRecDepth 100000 in
theorem sm_mt2_ok : sm_mt2.all sm_mOk = true := by decide +kernel
set_option maxRecDepth 100000 in
theorem sm_mt3_ok : sm_mt3.all sm_mOk = true := by decide +kernel
set_option maxRecDepth 100000 in
theorem sm_mt4_ok : sm_mt4.all sm_mOk = true := by decide +kernel
set_option maxRecDepth 100000 in
theorem sm_mt5_ok : sm_mt5.all sm_mOk = true := by decide +kernel
set_option maxRecDepth 100000 in
theorem sm_mt6_ok : sm_mt6.all sm_mOk = true := by decide +kernel
set_option maxRecDepth 100000 in
theorem sm_mt7_ok : (sm_mt7.take 6).all sm_mOk = true := by decide +kernel
def sm_clOk (c : Nat) : Bool := match vwCl[c]? with
  | none => false
  | some q => decide (q.2.2 = sm_nf c) && (List.range (sm_nf c)).all (fun k => sm_wd ((sm_lpT.getD c []).getD k 0) (u_lay q.1 q.2.1 k)) && sm_wd (sm_inT.getD c 0) (.instantiable q.1 (sm_nf c)) && sm_wd (sm_ipT.getD c 0) (.initialized q.1) && decide (q.1 = sm_cn c) &&
    (List.range (sm_nf c)).all (fun k => decide ((q.2.1 k).1 = q.1 ∧ (q.2.1 k).2.2.2 = sm_ff c k) && (match parseFieldDescriptor (q.2.1 k).2.2.1 with | some .int => sm_fk c k == 0 | some .boolean => sm_fk c k == 1 | some .long => sm_fk c k == 2 | some (.object _) => sm_fk c k == 3 | some (.array _) => sm_fk c k == 3 | _ => false) && (List.range (sm_nf c)).all (fun j => k == j || decide ((q.2.1 k).2.1 ≠ (q.2.1 j).2.1)))
set_option maxRecDepth 100000 in
theorem sm_cl_ok : (List.range 12).all sm_clOk = true := by decide +kernel
def sm_flOk (r : Nat × Nat × Nat × Nat × Nat) : Bool := match vwCl[r.2.2.1]? with
  | none => false
  | some q => decide (r.2.2.2.1 < q.2.2) && sm_wd r.2.2.2.2 (.fieldLink (sm_cn r.1) r.2.1 q.1 (q.2.1 r.2.2.2.1).2.1 (q.2.1 r.2.2.2.1).2.2.1)
set_option maxRecDepth 100000 in
theorem sm_fl_ok : sm_flT.all sm_flOk = true := by decide +kernel
def sm_caOk (r : Nat × Nat × Nat × Nat × Nat) : Bool := decide (r.2.2.1 < 216) && (if r.2.2.2.2 = 0 then sm_wd r.2.2.2.1 (.methodLink (sm_cn r.1) r.2.1 (sm_y r.2.2.1)) else decide (lw_tbl[r.2.2.2.1]? = some (.methodLinkNest (sm_cn r.1) r.2.1 (sm_y r.2.2.1) "FeltByTwin")))
set_option maxRecDepth 100000 in
theorem sm_ca_ok : sm_caT.all sm_caOk = true := by decide +kernel
set_option maxRecDepth 100000 in
theorem sm_ob_ok : sm_obT.all (fun r => sm_wd r.2.2 (.methodLink (sm_cn r.1) r.2.1 objectInit)) = true := by decide +kernel
set_option maxRecDepth 100000 in
theorem sm_ac_ok : sm_acT.all (fun r => sm_wd r.2.2 (.methodLink (sm_cn r.1) r.2.1 arraycopyName)) = true := by decide +kernel
set_option maxRecDepth 100000 in
theorem sm_ki_ok : sm_kiT.all (fun r => sm_wd r.2.2.2 (.constant (sm_cn r.1) r.2.1 r.2.2.1)) = true := by decide +kernel
set_option maxRecDepth 100000 in
theorem sm_kl_ok : sm_klT.all (fun r => sm_wd r.2.2.2 (.constantLong (sm_cn r.1) r.2.1 r.2.2.1)) = true := by decide +kernel
set_option maxRecDepth 100000 in
theorem sm_nw_ok : sm_nwT.all (fun r => decide (r.2.2.1 < 12) && sm_wd r.2.2.2 (.classLink (sm_cn r.1) r.2.1 (sm_cn r.2.2.1))) = true := by decide +kernel
set_option maxRecDepth 100000 in
theorem sm_st_ok : sm_stT.all (fun r => decide (r.2.2.1 < 2) && sm_wd r.2.2.2 (.fieldLink (sm_cn r.1) r.2.1 "FeltByTwin$News" (if r.2.2.1 = 0 then "LESSER" else "GREATER") "[I")) = true := by decide +kernel
end
section
/-! THE SMALL MACHINE: one frame at a time, cells by number (the n-th made is n), ints, longs and references in three memories; a call is told by a function of all methods -/
abbrev sm_Im : Type := Nat → Nat → Int32
abbrev sm_Lm : Type := Nat → Nat → Int64
abbrev sm_Pm : Type := Nat → Nat → Option Nat
abbrev sm_Rs : Type := Option Value × Nat × sm_Im × sm_Lm × sm_Pm
abbrev sm_St : Type := Nat × List (Option Value) × List Value × Nat × sm_Im × sm_Lm × sm_Pm
abbrev sm_Cf : Type := Nat → List Value → Nat → sm_Im → sm_Lm → sm_Pm → Option sm_Rs
abbrev sm_Xs : Type := Option (Nat × (Nat → Int32))
def sm_up {α : Type} (f : Nat → Nat → α) (a k : Nat) (v : α) : Nat → Nat → α := fun b j => if b = a ∧ j = k then v else f b j
def sm_z {α : Type} (f : Nat → Nat → α) (a : Nat) (v : α) : Nat → Nat → α := fun b j => if b = a then v else f b j
def sm_row {α : Type} (f : Nat → Nat → α) (a : Nat) (g : Nat → α) : Nat → Nat → α := fun b j => if b = a then g j else f b j
def sm_cl (o : Option Value) : Option Value := match o with
  | some (.long _) => none
  | some (.double _) => none
  | o => o
def sm_s1 (ls : List (Option Value)) (k : Nat) (v : Value) : List (Option Value) := (if k = 0 then ls else ls.set (k - 1) (sm_cl ((ls[k - 1]?).getD none))).set k (some v)
def sm_s2 (ls : List (Option Value)) (k : Nat) (v : Value) : List (Option Value) := (sm_s1 ls k v).set (k + 1) none
def sm_nx (pc : Nat) (ls : List (Option Value)) (st : List Value) (N : Nat) (I : sm_Im) (L : sm_Lm) (P : sm_Pm) : Option (sm_Rs ⊕ sm_St) := some (.inr (pc, ls, st, N, I, L, P))
def sm_to (pc : Nat) (off : Int) (ls : List (Option Value)) (st : List Value) (N : Nat) (I : sm_Im) (L : sm_Lm) (P : sm_Pm) : Option (sm_Rs ⊕ sm_St) := if 0 ≤ (pc : Int) + off then sm_nx ((pc : Int) + off).toNat ls st N I L P else none
def sm_br (c : Bool) (pc : Nat) (off : Int) (ls : List (Option Value)) (st : List Value) (N : Nat) (I : sm_Im) (L : sm_Lm) (P : sm_Pm) : Option (sm_Rs ⊕ sm_St) := if 0 ≤ (pc : Int) + off then sm_nx (bif c then ((pc : Int) + off).toNat else pc + 3) ls st N I L P else none
def sm_fv (c k a : Nat) (I : sm_Im) (L : sm_Lm) (P : sm_Pm) : Value := if sm_fk c k ≤ 1 then .int (I a k) else if sm_fk c k = 2 then .long (L a k) else va_rf (P a k)
def sm_p1 {α : Type} (st : List Value) (k : Int32 → List Value → Option α) : Option α := match st with
  | .int x :: r => k x r
  | _ => none
def sm_p2 {α : Type} (st : List Value) (k : Int32 → Int32 → List Value → Option α) : Option α := match st with
  | .int y :: .int x :: r => k x y r
  | _ => none
def sm_q1 {α : Type} (st : List Value) (k : Int64 → List Value → Option α) : Option α := match st with
  | .long x :: r => k x r
  | _ => none
def sm_q2 {α : Type} (st : List Value) (k : Int64 → Int64 → List Value → Option α) : Option α := match st with
  | .long y :: .long x :: r => k x y r
  | _ => none
def sm_ldi {α : Type} (ls : List (Option Value)) (n : Nat) (k : Int32 → Option α) : Option α := match ls[n]? with
  | some (some (.int x)) => k x
  | _ => none
def sm_ldl {α : Type} (ls : List (Option Value)) (n : Nat) (k : Int64 → Option α) : Option α := match ls[n]? with
  | some (some (.long x)) => k x
  | _ => none
def sm_lda {α : Type} (ls : List (Option Value)) (n : Nat) (k : Option Nat → Option α) : Option α := match ls[n]? with
  | some (some (.ref x)) => k (some x)
  | some (some .null) => k none
  | _ => none
def sm_pa {α : Type} (st : List Value) (k : Option Nat → List Value → Option α) : Option α := match st with
  | .ref x :: r => k (some x) r
  | .null :: r => k none r
  | _ => none
def sm_ic (c : ClassFile.Cond) (x y : Int32) : Bool := match c with
  | .eq => decide (x = y)
  | .ne => decide (¬ x = y)
  | .lt => decide (x < y)
  | .ge => decide (y ≤ x)
  | .gt => decide (y < x)
  | .le => decide (x ≤ y)
def sm_iv (C : sm_Cf) (j : Nat) (n : Nat) (pc : Nat) (ls : List (Option Value)) (st : List Value) (N : Nat) (I : sm_Im) (L : sm_Lm) (P : sm_Pm) : Option (sm_Rs ⊕ sm_St) :=
  if n ≤ st.length ∧ (st.drop n).length ≤ 4 then
    match C j (st.take n).reverse N I L P with
    | some (r, N1, I1, L1, P1) => sm_nx (pc + 3) ls (r.toList ++ st.drop n) N1 I1 L1 P1
    | none => none
  else none
def sm_isR (N : Nat) (c : Nat) (v : Option Value) : Bool := match v with
  | some (.ref a) => decide (a < N) && decide (sm_lay a = .inl c)
  | _ => false
def sm_NN : Nat := 81
def sm_X (C : sm_Cf) (X : sm_Xs) (i : Nat) (ins : Instr) (pc : Nat) (ls : List (Option Value)) (st : List Value) (N : Nat) (I : sm_Im) (L : sm_Lm) (P : sm_Pm) : Option (sm_Rs ⊕ sm_St) :=
  match ins with
  | .iconst n => sm_nx (pc + 1) ls (.int (Int32.ofInt n) :: st) N I L P
  | .bipush n => sm_nx (pc + 2) ls (.int (Int8.ofInt n).toInt32 :: st) N I L P
  | .sipush n => sm_nx (pc + 3) ls (.int (Int16.ofInt n).toInt32 :: st) N I L P
  | .lconst n => sm_nx (pc + 1) ls (.long (Int64.ofNat n) :: st) N I L P
  | .aconst_null => sm_nx (pc + 1) ls (.null :: st) N I L P
  | .ldc x => match sm_ki (sm_o i) x with
    | some q => sm_nx (pc + 2) ls (.int q.1 :: st) N I L P
    | none => none
  | .ldc_w x => match sm_ki (sm_o i) x with
    | some q => sm_nx (pc + 3) ls (.int q.1 :: st) N I L P
    | none => none
  | .ldc2_w x => match sm_kl (sm_o i) x with
    | some q => sm_nx (pc + 3) ls (.long q.1 :: st) N I L P
    | none => none
  | .iload_n n => sm_ldi ls n fun x => sm_nx (pc + 1) ls (.int x :: st) N I L P
  | .iload n => sm_ldi ls n fun x => sm_nx (pc + 2) ls (.int x :: st) N I L P
  | .lload_n n => sm_ldl ls n fun x => sm_nx (pc + 1) ls (.long x :: st) N I L P
  | .lload n => sm_ldl ls n fun x => sm_nx (pc + 2) ls (.long x :: st) N I L P
  | .aload_n n => sm_lda ls n fun x => sm_nx (pc + 1) ls (va_rf x :: st) N I L P
  | .aload n => sm_lda ls n fun x => sm_nx (pc + 2) ls (va_rf x :: st) N I L P
  | .istore_n n => sm_p1 st fun x r => if n < sm_ml i then sm_nx (pc + 1) (sm_s1 ls n (.int x)) r N I L P else none
  | .istore n => sm_p1 st fun x r => if n < sm_ml i then sm_nx (pc + 2) (sm_s1 ls n (.int x)) r N I L P else none
  | .lstore_n n => sm_q1 st fun x r => if n + 1 < sm_ml i then sm_nx (pc + 1) (sm_s2 ls n (.long x)) r N I L P else none
  | .lstore n => sm_q1 st fun x r => if n + 1 < sm_ml i then sm_nx (pc + 2) (sm_s2 ls n (.long x)) r N I L P else none
  | .astore_n n => sm_pa st fun x r => if n < sm_ml i then sm_nx (pc + 1) (sm_s1 ls n (va_rf x)) r N I L P else none
  | .astore n => sm_pa st fun x r => if n < sm_ml i then sm_nx (pc + 2) (sm_s1 ls n (va_rf x)) r N I L P else none
  | .iinc n z => sm_ldi ls n fun x => if n < sm_ml i then sm_nx (pc + 3) (sm_s1 ls n (.int (x + Int32.ofInt z))) st N I L P else none
  | .iadd => sm_p2 st fun x y r => sm_nx (pc + 1) ls (.int (x + y) :: r) N I L P
  | .isub => sm_p2 st fun x y r => sm_nx (pc + 1) ls (.int (x - y) :: r) N I L P
  | .imul => sm_p2 st fun x y r => sm_nx (pc + 1) ls (.int (x * y) :: r) N I L P
  | .idiv => sm_p2 st fun x y r => if y = 0 then none else sm_nx (pc + 1) ls (.int (x / y) :: r) N I L P
  | .irem => sm_p2 st fun x y r => if y = 0 then none else sm_nx (pc + 1) ls (.int (x - x / y * y) :: r) N I L P
  | .iand => sm_p2 st fun x y r => sm_nx (pc + 1) ls (.int (x &&& y) :: r) N I L P
  | .ior => sm_p2 st fun x y r => sm_nx (pc + 1) ls (.int (x ||| y) :: r) N I L P
  | .ixor => sm_p2 st fun x y r => sm_nx (pc + 1) ls (.int (x ^^^ y) :: r) N I L P
  | .ishl => sm_p2 st fun x y r => sm_nx (pc + 1) ls (.int (x <<< (y &&& 31)) :: r) N I L P
  | .ishr => sm_p2 st fun x y r => sm_nx (pc + 1) ls (.int (x >>> (y &&& 31)) :: r) N I L P
  | .iushr => sm_p2 st fun x y r => sm_nx (pc + 1) ls (.int (x.toUInt32 >>> (y.toUInt32 &&& Int32.toUInt32 31)).toInt32 :: r) N I L P
  | .ladd => sm_q2 st fun x y r => sm_nx (pc + 1) ls (.long (x + y) :: r) N I L P
  | .lsub => sm_q2 st fun x y r => sm_nx (pc + 1) ls (.long (x - y) :: r) N I L P
  | .lmul => sm_q2 st fun x y r => sm_nx (pc + 1) ls (.long (x * y) :: r) N I L P
  | .ldiv => sm_q2 st fun x y r => if y = 0 then none else sm_nx (pc + 1) ls (.long (x / y) :: r) N I L P
  | .lrem => sm_q2 st fun x y r => if y = 0 then none else sm_nx (pc + 1) ls (.long (x - x / y * y) :: r) N I L P
  | .land => sm_q2 st fun x y r => sm_nx (pc + 1) ls (.long (x &&& y) :: r) N I L P
  | .lor => sm_q2 st fun x y r => sm_nx (pc + 1) ls (.long (x ||| y) :: r) N I L P
  | .lcmp => sm_q2 st fun x y r => sm_nx (pc + 1) ls (.int (lg_cmp x y) :: r) N I L P
  | .lshl => match st with
    | .int y :: .long x :: r => sm_nx (pc + 1) ls (.long (x <<< (y.toInt64 &&& 63)) :: r) N I L P
    | _ => none
  | .lushr => match st with
    | .int y :: .long x :: r => sm_nx (pc + 1) ls (.long (x.toUInt64 >>> (y.toInt64.toUInt64 &&& Int64.toUInt64 63)).toInt64 :: r) N I L P
    | _ => none
  | .i2l => sm_p1 st fun x r => sm_nx (pc + 1) ls (.long x.toInt64 :: r) N I L P
  | .l2i => sm_q1 st fun x r => sm_nx (pc + 1) ls (.int x.toInt32 :: r) N I L P
  | .dup => match st with
    | v :: r => if v.category = 1 then sm_nx (pc + 1) ls (v :: v :: r) N I L P else none
    | _ => none
  | .dup2 => match st with
    | v :: w :: r => if v.category = 1 ∧ w.category = 1 then sm_nx (pc + 1) ls (v :: w :: v :: w :: r) N I L P else none
    | _ => none
  | .pop => match st with
    | v :: r => if v.category = 1 then sm_nx (pc + 1) ls r N I L P else none
    | _ => none
  | .goto off => sm_to pc off ls st N I L P
  | .ifCond c off => sm_p1 st fun x r => sm_br (sm_ic c x 0) pc off ls r N I L P
  | .if_icmp c off => sm_p2 st fun x y r => sm_br (sm_ic c x y) pc off ls r N I L P
  | .ifnull off => sm_pa st fun x r => sm_br x.isNone pc off ls r N I L P
  | .ifnonnull off => sm_pa st fun x r => sm_br x.isSome pc off ls r N I L P
  | .tableswitch d lo hi offs => sm_p1 st fun x r => if x.toInt < lo ∨ hi < x.toInt then sm_to pc d ls r N I L P else match offs[(x.toInt - lo).toNat]? with
    | some off => sm_to pc off ls r N I L P
    | none => none
  | .lookupswitch d ps => sm_p1 st fun x r => if (ps.toList.zip (ps.toList.drop 1)).all (fun (a, next) => a.1 < next.1) = true then sm_to pc (Op.lookupswitch.offset ps.toList d x.toInt) ls r N I L P else none
  | .getfield x => match sm_fld (sm_o i) x with
    | some q => match st with
      | .ref a :: r => if a < N ∧ sm_lay a = .inl q.1 then sm_nx (pc + 3) ls (sm_fv q.1 q.2.1 a I L P :: r) N I L P else none
      | _ => none
    | none => none
  | .putfield x => match sm_fld (sm_o i) x with
    | some q => match st with
      | .int v :: .ref a :: r => if (a < N ∧ sm_lay a = .inl q.1) ∧ (sm_fk q.1 q.2.1 = 0 ∨ (sm_fk q.1 q.2.1 = 1 ∧ (v = 0 ∨ v = 1))) ∧ (sm_ff q.1 q.2.1 = false) then sm_nx (pc + 3) ls r N (sm_up I a q.2.1 v) L P else none
      | .long v :: .ref a :: r => if (a < N ∧ sm_lay a = .inl q.1) ∧ sm_fk q.1 q.2.1 = 2 ∧ (sm_ff q.1 q.2.1 = false) then sm_nx (pc + 3) ls r N I (sm_up L a q.2.1 v) P else none
      | .ref v :: .ref a :: r => if (a < N ∧ sm_lay a = .inl q.1) ∧ sm_fk q.1 q.2.1 = 3 ∧ (sm_ff q.1 q.2.1 = false ∨ (sm_kd i = 2 ∧ sm_o i = q.1)) then sm_nx (pc + 3) ls r N I L (sm_up P a q.2.1 (some v)) else none
      | _ => none
    | none => none
  | .getstatic x => match sm_stf (sm_o i) x with
    | some q => sm_nx (pc + 3) ls (.ref (1048576 + q.1) :: st) N I L P
    | none => none
  | .iaload => match st with
    | .int x :: .ref a :: r => if a < N then (match sm_lay a with
        | .inr (.inl n) => if ¬ (x < 0 ∨ n ≤ x.toNatClampNeg) then sm_nx (pc + 1) ls (.int (I a x.toNatClampNeg) :: r) N I L P else none
        | _ => none)
      else if a = 1048576 ∨ a = 1048577 then (if ¬ (x < 0 ∨ 15 ≤ x.toNatClampNeg) then sm_nx (pc + 1) ls (.int (sm_tab (a - 1048576) x.toNatClampNeg) :: r) N I L P else none)
      else if a = 1048578 then (match X with
        | some q => if ¬ (x < 0 ∨ q.1 ≤ x.toNatClampNeg) then sm_nx (pc + 1) ls (.int (q.2 x.toNatClampNeg) :: r) N I L P else none
        | none => none) else none
    | _ => none
  | .iastore => match st with
    | .int v :: .int x :: .ref a :: r => if a < N then (match sm_lay a with
        | .inr (.inl n) => if ¬ (x < 0 ∨ n ≤ x.toNatClampNeg) then sm_nx (pc + 1) ls r N (sm_up I a x.toNatClampNeg v) L P else none
        | _ => none) else none
    | _ => none
  | .aaload => match st with
    | .int x :: .ref a :: r => if a < N then (match sm_lay a with
        | .inr (.inr n) => if ¬ (x < 0 ∨ n ≤ x.toNatClampNeg) then sm_nx (pc + 1) ls (va_rf (P a x.toNatClampNeg) :: r) N I L P else none
        | _ => none) else none
    | _ => none
  | .aastore => match st with
    | .ref v :: .int x :: .ref a :: r => if a < N ∧ v < N ∧ sm_lay v = .inl 0 then (match sm_lay a with
        | .inr (.inr n) => if ¬ (x < 0 ∨ n ≤ x.toNatClampNeg) then sm_nx (pc + 1) ls r N I L (sm_up P a x.toNatClampNeg (some v)) else none
        | _ => none) else none
    | _ => none
  | .arraylength => match st with
    | .ref a :: r => if a < N then (match sm_lay a with
        | .inr (.inl n) => sm_nx (pc + 1) ls (.int (Int32.ofNat n) :: r) N I L P
        | _ => none)
      else if a = 1048578 then (match X with
        | some q => sm_nx (pc + 1) ls (.int (Int32.ofNat q.1) :: r) N I L P
        | none => none) else none
    | _ => none
  | .newarray .int => sm_p1 st fun x r => if ¬ x < 0 ∧ N < sm_NN ∧ sm_lay N = .inr (.inl x.toNatClampNeg) then sm_nx (pc + 2) ls (.ref N :: r) (N + 1) (sm_z I N 0) L P else none
  | .anewarray x => match sm_nw (sm_o i) x with
    | some q => sm_p1 st fun x r => if ¬ x < 0 ∧ N < sm_NN ∧ sm_lay N = .inr (.inr x.toNatClampNeg) ∧ q.1 = 0 then sm_nx (pc + 3) ls (.ref N :: r) (N + 1) I L (sm_z P N none) else none
    | none => none
  | .new x => match sm_nw (sm_o i) x with
    | some q => if N < sm_NN ∧ sm_lay N = .inl q.1 then sm_nx (pc + 3) ls (.ref N :: st) (N + 1) (sm_z I N 0) (sm_z L N 0) (sm_z P N none) else none
    | none => none
  | .invokestatic x => match sm_cal (sm_o i) x with
    | some q => if sm_kd q.1 = 0 then sm_iv C q.1 (sm_np q.1) pc ls st N I L P else none
    | none => match sm_ac (sm_o i) x with
      | some _ => match st with
        | .int n :: .int dp :: .ref a :: .int sp :: .ref a0 :: r => if (a < N ∧ a0 < N ∧ r.length ≤ 4) ∧ ¬ sp < 0 ∧ ¬ dp < 0 ∧ ¬ n < 0 then (match sm_lay a0, sm_lay a with
            | .inr (.inl n0), .inr (.inl n1) => if sp.toNatClampNeg + n.toNatClampNeg ≤ n0 ∧ dp.toNatClampNeg + n.toNatClampNeg ≤ n1 then sm_nx (pc + 3) ls r N (sm_row I a (va_cpy (I a0) (I a) sp.toNatClampNeg dp.toNatClampNeg n.toNatClampNeg)) L P else none
            | _, _ => none) else none
        | _ => none
      | none => none
  | .invokevirtual x => match sm_cal (sm_o i) x with
    | some q => if (sm_kd q.1 = 1 ∧ q.2.2 = 0) ∧ sm_isR N (sm_o q.1) st[sm_np q.1]? = true then sm_iv C q.1 (sm_np q.1 + 1) pc ls st N I L P else none
    | none => none
  | .invokespecial x => match sm_cal (sm_o i) x with
    | some q => if sm_kd q.1 = 2 ∧ sm_isR N (sm_o q.1) st[sm_np q.1]? = true then sm_iv C q.1 (sm_np q.1 + 1) pc ls st N I L P else none
    | none => match sm_ob (sm_o i) x with
      | some _ => match st with
        | .ref _ :: r => if r.length ≤ 4 then sm_nx (pc + 3) ls r N I L P else none
        | _ => none
      | none => none
  | .ireturn => match st with
    | [.int v] => if sm_rt i = some .int ∨ (sm_rt i = some .boolean ∧ v &&& 1 = v) then some (.inl (some (.int v), N, I, L, P)) else none
    | _ => none
  | .lreturn => match st with
    | [.long v] => if sm_rt i = some .long then some (.inl (some (.long v), N, I, L, P)) else none
    | _ => none
  | .areturn => match st with
    | [.ref v] => if sm_rt i = some (.object "FeltByTwin$Birth") then some (.inl (some (.ref v), N, I, L, P)) else none
    | [.null] => if sm_rt i = some (.object "FeltByTwin$Birth") then some (.inl (some .null, N, I, L, P)) else none
    | _ => none
  | .return_ => match st with
    | [] => if sm_rt i = none then some (.inl (none, N, I, L, P)) else none
    | _ => none
  | _ => none
def sm_len (ins : Instr) : Nat := match ins with
  | .bipush _ => 2
  | .ldc _ => 2
  | .iload _ => 2
  | .lload _ => 2
  | .aload _ => 2
  | .istore _ => 2
  | .lstore _ => 2
  | .astore _ => 2
  | .newarray _ => 2
  | .sipush _ => 3
  | .ldc_w _ => 3
  | .ldc2_w _ => 3
  | .iinc _ _ => 3
  | .goto _ => 3
  | .ifCond _ _ => 3
  | .if_icmp _ _ => 3
  | .ifnull _ => 3
  | .ifnonnull _ => 3
  | .getfield _ => 3
  | .putfield _ => 3
  | .getstatic _ => 3
  | .anewarray _ => 3
  | .new _ => 3
  | .invokestatic _ => 3
  | .invokevirtual _ => 3
  | .invokespecial _ => 3
  | .tableswitch _ _ _ _ => 0
  | .lookupswitch _ _ => 0
  | _ => 1
def sm_S (C : sm_Cf) (X : sm_Xs) (i : Nat) (s : sm_St) : Option (sm_Rs ⊕ sm_St) := match decode (sm_b i) s.1 with
  | .ok q => if sm_len q.1 = 0 ∨ sm_len q.1 = q.2 then sm_X C X i q.1 s.1 s.2.1 s.2.2.1 s.2.2.2.1 s.2.2.2.2.1 s.2.2.2.2.2.1 s.2.2.2.2.2.2 else none
  | .error _ => none
def sm_run (C : sm_Cf) (X : sm_Xs) (i : Nat) : Nat → sm_St → Option sm_Rs
  | 0, _ => none
  | n + 1, s => match sm_S C X i s with
    | none => none
    | some (.inl r) => some r
    | some (.inr s1) => sm_run C X i n s1
theorem sm_run_up {C : sm_Cf} {X : sm_Xs} {i : Nat} : ∀ {n : Nat} {s : sm_St} {r : sm_Rs}, sm_run C X i n s = some r → sm_run C X i (n + 1) s = some r := by
  intro n
  induction n with
  | zero => intro s r h; cases h
  | succ n ih =>
    intro s r h
    unfold sm_run at h ⊢
    cases hs : sm_S C X i s with
    | none => rw [hs] at h; cases h
    | some q =>
      rw [hs] at h
      cases q with
      | inl r1 => exact h
      | inr s1 => exact ih h
theorem sm_run_ge {C : sm_Cf} {X : sm_Xs} {i : Nat} {n k : Nat} {s : sm_St} {r : sm_Rs} (h : sm_run C X i n s = some r) : sm_run C X i (n + k) s = some r := by
  induction k with
  | zero => exact h
  | succ k ih => exact sm_run_up ih
theorem sm_run_one {C : sm_Cf} {X : sm_Xs} {i : Nat} {n k : Nat} {s : sm_St} {r q : sm_Rs} (h : sm_run C X i n s = some r) (h2 : sm_run C X i k s = some q) : r = q := by
  have a := sm_run_ge (k := k) h
  have b := sm_run_ge (k := n) h2
  rw [Nat.add_comm k n] at b
  rw [a] at b
  exact Option.some.inj b
noncomputable def sm_lim (C : sm_Cf) (X : sm_Xs) (i : Nat) (s : sm_St) : Option sm_Rs := @dite _ (∃ r n, sm_run C X i n s = some r) (Classical.propDecidable _) (fun h => some h.choose) (fun _ => none)
theorem sm_lim_iff {C : sm_Cf} {X : sm_Xs} {i : Nat} {s : sm_St} {r : sm_Rs} : sm_lim C X i s = some r ↔ ∃ n, sm_run C X i n s = some r := by
  unfold sm_lim
  by_cases h : ∃ r n, sm_run C X i n s = some r
  · rw [dif_pos h]
    obtain ⟨n, hn⟩ := h.choose_spec
    constructor
    · intro q
      cases q
      exact ⟨n, hn⟩
    · rintro ⟨k, hk⟩
      rw [sm_run_one hn hk]
  · rw [dif_neg h]
    constructor
    · intro q; cases q
    · rintro ⟨k, hk⟩
      exact absurd ⟨r, k, hk⟩ h
theorem sm_lim_next {C : sm_Cf} {X : sm_Xs} {i : Nat} {s s1 : sm_St} (h : sm_S C X i s = some (.inr s1)) : sm_lim C X i s = sm_lim C X i s1 := by
  apply Option.ext
  intro r
  rw [sm_lim_iff, sm_lim_iff]
  constructor
  · rintro ⟨n, hn⟩
    cases n with
    | zero => cases hn
    | succ n =>
      unfold sm_run at hn
      rw [h] at hn
      exact ⟨n, hn⟩
  · rintro ⟨n, hn⟩
    exact ⟨n + 1, by unfold sm_run; rw [h]; exact hn⟩
theorem sm_lim_ret {C : sm_Cf} {X : sm_Xs} {i : Nat} {s : sm_St} {r : sm_Rs} (h : sm_S C X i s = some (.inl r)) : sm_lim C X i s = some r := sm_lim_iff.mpr ⟨1, by unfold sm_run; rw [h]⟩
noncomputable def sm_at (C : sm_Cf) (X : sm_Xs) (i pc : Nat) (ls : List (Option Value)) (st : List Value) (N : Nat) (I : sm_Im) (L : sm_Lm) (P : sm_Pm) : Option sm_Rs := sm_lim C X i (pc, ls, st, N, I, L, P)
def sm_ent : List Value → List (Option Value)
  | [] => []
  | .long x :: r => some (.long x) :: none :: sm_ent r
  | .double x :: r => some (.double x) :: none :: sm_ent r
  | v :: r => some v :: sm_ent r
def sm_lsl (i : Nat) (as : List Value) : List (Option Value) := sm_ent as ++ List.replicate (sm_ml i - (sm_ent as).length) none
noncomputable def sm_ex : Nat → sm_Cf
  | 0 => fun _ _ _ _ _ _ => none
  | d + 1 => fun i as N I L P => if (sm_ent as).length ≤ sm_ml i then sm_at (sm_ex d) none i 0 (sm_lsl i as) [] N I L P else none
end
section
/-! THE LINK between the small machine and the machine of the claim -/
def sm_rho (base tL tG bS k : Nat) : Nat := if k = 1048576 then tL else if k = 1048577 then tG else if k = 1048578 then bS else base + k
def sm_cv (ρ : Nat → Nat) (v : Value) : Value := match v with
  | .ref k => .ref (ρ k)
  | v => v
theorem sm_cv_rf (ρ : Nat → Nat) (o : Option Nat) : sm_cv ρ (va_rf o) = va_rf (o.map ρ) := by cases o <;> rfl
theorem sm_cv_cat (ρ : Nat → Nat) (v : Value) : (sm_cv ρ v).category = v.category := by cases v <;> rfl
def sm_ce (cyI cyB : ClassId) (ρ : Nat → Nat) (I : sm_Im) (L : sm_Lm) (P : sm_Pm) (k : Nat) : va_E := match sm_lay k with
  | .inl c => .inr (c, (List.range (sm_nf c)).map (fun j => sm_cv ρ (sm_fv c j k I L P)))
  | .inr (.inl n) => .inl (cyI, n, .inl (I k))
  | .inr (.inr n) => .inl (cyB, n, .inr (.inr (.inr (.inr (fun j => (P k j).map ρ)))))
def sm_cw (cyI cyB : ClassId) (base : Nat) (ρ : Nat → Nat) (N : Nat) (I : sm_Im) (L : sm_Lm) (P : sm_Pm) : va_W := (List.range N).map (fun k => (base + k, sm_ce cyI cyB ρ I L P k))
theorem sm_cw_get {cyI cyB : ClassId} {base : Nat} {ρ : Nat → Nat} {N : Nat} {I : sm_Im} {L : sm_Lm} {P : sm_Pm} {k : Nat} (h : k < N) : (sm_cw cyI cyB base ρ N I L P)[k]? = some (base + k, sm_ce cyI cyB ρ I L P k) := by
  unfold sm_cw
  rw [List.getElem?_map, List.getElem?_range h]
  rfl
theorem sm_ce_eq {cyI cyB : ClassId} {ρ : Nat → Nat} {I I1 : sm_Im} {L L1 : sm_Lm} {P P1 : sm_Pm} {k : Nat} (h1 : I1 k = I k) (h2 : L1 k = L k) (h3 : P1 k = P k) : sm_ce cyI cyB ρ I1 L1 P1 k = sm_ce cyI cyB ρ I L P k := by
  unfold sm_ce
  rw [h1, h3]
  have : ∀ c j, sm_fv c j k I1 L1 P1 = sm_fv c j k I L P := fun c j => by unfold sm_fv; rw [h1, h2, h3]
  simp only [this]
theorem sm_cw_set {cyI cyB : ClassId} {base : Nat} {ρ : Nat → Nat} {N : Nat} {I I1 : sm_Im} {L L1 : sm_Lm} {P P1 : sm_Pm} {a : Nat} {e : va_E} (h : a < N) (he : sm_ce cyI cyB ρ I1 L1 P1 a = e) (h1 : ∀ k, k ≠ a → I1 k = I k) (h2 : ∀ k, k ≠ a → L1 k = L k) (h3 : ∀ k, k ≠ a → P1 k = P k) :
    (sm_cw cyI cyB base ρ N I L P).set a (base + a, e) = sm_cw cyI cyB base ρ N I1 L1 P1 := by
  apply List.ext_getElem?
  intro k
  by_cases hk : k < N
  · rw [sm_cw_get hk]
    by_cases ha : k = a
    · subst ha
      rw [List.getElem?_set_self (by unfold sm_cw; simpa using hk), he]
    · rw [List.getElem?_set_ne (fun q => ha q.symm), sm_cw_get hk, sm_ce_eq (h1 k ha) (h2 k ha) (h3 k ha)]
  · rw [List.getElem?_eq_none (by unfold sm_cw; simpa using hk), List.getElem?_eq_none (by unfold sm_cw; simpa using hk)]
theorem sm_cw_add {cyI cyB : ClassId} {base : Nat} {ρ : Nat → Nat} {N : Nat} {I I1 : sm_Im} {L L1 : sm_Lm} {P P1 : sm_Pm} {e : va_E} (he : sm_ce cyI cyB ρ I1 L1 P1 N = e) (h1 : ∀ k, k ≠ N → I1 k = I k) (h2 : ∀ k, k ≠ N → L1 k = L k) (h3 : ∀ k, k ≠ N → P1 k = P k) :
    sm_cw cyI cyB base ρ N I L P ++ [(base + N, e)] = sm_cw cyI cyB base ρ (N + 1) I1 L1 P1 := by
  unfold sm_cw
  rw [List.range_succ, List.map_append]
  congr 1
  · apply List.map_congr_left
    intro k hk
    have := List.mem_range.mp hk
    rw [sm_ce_eq (h1 k (by omega)) (h2 k (by omega)) (h3 k (by omega))]
  · rw [List.map_cons, he]; rfl
theorem sm_D (cyI cyB : ClassId) (base : Nat) (ρ : Nat → Nat) (N : Nat) (I : sm_Im) (L : sm_Lm) (P : sm_Pm) : va_D (fun q => base ≤ q) (sm_cw cyI cyB base ρ N I L P) := by
  have key : ∀ (k : Nat) (q : Nat × va_E), (sm_cw cyI cyB base ρ N I L P)[k]? = some q → q.1 = base + k := by
    intro k q h
    have hk : k < N := by
      have := (List.getElem?_eq_some_iff.mp h).1
      unfold sm_cw at this
      simpa using this
    rw [sm_cw_get hk] at h
    cases h
    rfl
  refine ⟨fun i j p q hp hq he => ?_, fun k q hq => ?_⟩
  · have h1 := key i p hp
    have h2 := key j q hq
    omega
  · have h1 := key k q hq
    show base ≤ q.1
    omega
def sm_sz (k : Nat) : Nat := match sm_lay k with
  | .inl c => sm_nf c
  | .inr (.inl n) => n
  | .inr (.inr n) => n
def sm_sl : Nat → Nat
  | 0 => 0
  | n + 1 => sm_sl n + sm_sz n
theorem sm_sl_mono {a b : Nat} (h : a ≤ b) : sm_sl a ≤ sm_sl b := by
  induction h with
  | refl => exact Nat.le_refl _
  | step h ih => exact Nat.le_trans ih (Nat.le_add_right _ _)
/-- the locals -/
def sm_lh (ρ : Nat → Nat) (lsr : Array Slot) (nL : Nat) (ls : List (Option Value)) : Prop := lsr.size = nL ∧ lv_wf lsr ∧ ∀ (k : Nat) (v : Value), ls[k]? = some (some v) → lsr[k]? = some (.val (sm_cv ρ v))
def sm_lvl (ρ : Nat → Nat) (ls : List (Option Value)) : List (Nat × Value) := (List.range ls.length).filterMap (fun k => match ls[k]? with
  | some (some v) => some (k, sm_cv ρ v)
  | _ => none)
theorem sm_lvl_mem {ρ : Nat → Nat} {ls : List (Option Value)} {k : Nat} {w : Value} : (k, w) ∈ sm_lvl ρ ls ↔ ∃ v, ls[k]? = some (some v) ∧ w = sm_cv ρ v := by
  unfold sm_lvl
  rw [List.mem_filterMap]
  constructor
  · rintro ⟨j, -, hj⟩
    cases h : ls[j]? with
    | none => rw [h] at hj; cases hj
    | some o =>
      cases o with
      | none => rw [h] at hj; cases hj
      | some v =>
        rw [h] at hj
        cases hj
        exact ⟨v, h, rfl⟩
  · rintro ⟨v, hv, rfl⟩
    refine ⟨k, List.mem_range.mpr (List.getElem?_eq_some_iff.mp hv).1, ?_⟩
    rw [hv]
theorem sm_lh_has {ρ : Nat → Nat} {lsr : Array Slot} {nL : Nat} {ls : List (Option Value)} (h : sm_lh ρ lsr nL ls) : lv_has lsr nL (sm_lvl ρ ls) := by
  refine ⟨h.1, h.2.1, fun q hq => ?_⟩
  obtain ⟨k, w⟩ := q
  obtain ⟨v, hv, rfl⟩ := sm_lvl_mem.mp hq
  exact h.2.2 k v hv
theorem sm_s1_get {ls : List (Option Value)} {n k : Nat} {v w : Value} (h : (sm_s1 ls n v)[k]? = some (some w)) : (k = n ∧ w = v) ∨ (k ≠ n ∧ ls[k]? = some (some w) ∧ ¬ (k + 1 = n ∧ w.category = 2)) := by
  unfold sm_s1 at h
  rw [List.getElem?_set] at h
  by_cases hk : n = k
  · subst hk
    left
    rw [if_pos rfl] at h
    by_cases hl : n < (if n = 0 then ls else ls.set (n - 1) (sm_cl (ls[n - 1]?.getD none))).length
    · rw [if_pos hl] at h; cases h; exact ⟨rfl, rfl⟩
    · rw [if_neg hl] at h; cases h
  · rw [if_neg hk] at h
    right
    refine ⟨fun q => hk q.symm, ?_⟩
    by_cases h0 : n = 0
    · rw [if_pos h0] at h
      exact ⟨h, fun q => by omega⟩
    · rw [if_neg h0, List.getElem?_set] at h
      by_cases h1 : n - 1 = k
      · rw [if_pos h1] at h
        subst h1
        split at h
        · cases hl : ls[n - 1]? with
          | none => rw [hl] at h; cases h
          | some o =>
            rw [hl] at h
            cases o with
            | none => cases h
            | some u =>
              cases u <;> first | (cases h; exact ⟨rfl, fun q => by have := q.2; simp [Value.category] at this⟩) | cases h
        · cases h
      · rw [if_neg h1] at h
        exact ⟨h, fun q => by omega⟩
theorem sm_lh_1 {ρ : Nat → Nat} {lsr : Array Slot} {nL n : Nat} {ls : List (Option Value)} {v : Value} (h : lv_has lsr nL ((n, sm_cv ρ v) :: (sm_lvl ρ ls).filter (fun q => !(q.1 == n) && !(q.1 + 1 == n && q.2.category == 2)))) : sm_lh ρ lsr nL (sm_s1 ls n v) := by
  refine ⟨h.1, h.2.1, fun k w hk => ?_⟩
  rcases sm_s1_get hk with ⟨rfl, rfl⟩ | ⟨h1, h2, h3⟩
  · exact h.2.2 (k, sm_cv ρ w) List.mem_cons_self
  · refine h.2.2 (k, sm_cv ρ w) (List.mem_cons_of_mem _ (List.mem_filter.mpr ⟨sm_lvl_mem.mpr ⟨w, h2, rfl⟩, ?_⟩))
    rw [sm_cv_cat]
    simp only [Bool.and_eq_true, Bool.not_eq_true', beq_eq_false_iff_ne, ne_eq, Bool.and_eq_false_iff]
    refine ⟨h1, ?_⟩
    by_cases a : k + 1 = n
    · exact Or.inr fun q => h3 ⟨a, q⟩
    · exact Or.inl a
theorem sm_lh_2 {ρ : Nat → Nat} {lsr : Array Slot} {nL n : Nat} {ls : List (Option Value)} {v : Value} (h : lv_has lsr nL ((n, sm_cv ρ v) :: (sm_lvl ρ ls).filter (fun q => !(q.1 == n) && (!(q.1 == n + 1) && !(q.1 + 1 == n && q.2.category == 2))))) : sm_lh ρ lsr nL (sm_s2 ls n v) := by
  refine ⟨h.1, h.2.1, fun k w hk => ?_⟩
  unfold sm_s2 at hk
  rw [List.getElem?_set] at hk
  by_cases hn : n + 1 = k
  · rw [if_pos hn] at hk
    split at hk <;> cases hk
  · rw [if_neg hn] at hk
    rcases sm_s1_get hk with ⟨rfl, rfl⟩ | ⟨h1, h2, h3⟩
    · exact h.2.2 (k, sm_cv ρ w) List.mem_cons_self
    · refine h.2.2 (k, sm_cv ρ w) (List.mem_cons_of_mem _ (List.mem_filter.mpr ⟨sm_lvl_mem.mpr ⟨w, h2, rfl⟩, ?_⟩))
      rw [sm_cv_cat]
      simp only [Bool.and_eq_true, Bool.not_eq_true', beq_eq_false_iff_ne, ne_eq, Bool.and_eq_false_iff]
      refine ⟨h1, fun q => hn q.symm, ?_⟩
      by_cases a : k + 1 = n
      · exact Or.inr fun q => h3 ⟨a, q⟩
      · exact Or.inl a
theorem sm_iinc_get {ρ : Nat → Nat} {ls : List (Option Value)} {n : Nat} {x : Int32} (h : ls[n]? = some (some (.int x))) : ∃ k : Nat, (sm_lvl ρ ls)[k]? = some (n, Value.int x) := List.getElem?_of_mem (sm_lvl_mem.mpr ⟨_, h, rfl⟩)
/-- the world -/
def sm_ty (cyI cyB : ClassId) : List (ClassId × FieldType) := [(cyI, .int), (cyB, .object "FeltByTwin$Birth")]
def sm_nest : List Cond := lw_tbl.filter (fun w => match w with
  | .methodLinkNest _ _ _ _ => true
  | _ => false)
def sm_En (base tL tG : Nat) (U : State) : Prop := va_AO "FeltByTwin$Birth" U ∧ (∀ w ∈ sm_nest, va_Nw w U) ∧ base ≤ U.heap.size ∧
  (va_Z "FeltByTwin$News" "LESSER" "[I" (.ref tL) (fun q => base ≤ q) U U.heap ∧ va_T .int tL 15 (fun j => .int (sm_tab 0 j)) (fun q => base ≤ q) U U.heap) ∧
  (va_Z "FeltByTwin$News" "GREATER" "[I" (.ref tG) (fun q => base ≤ q) U U.heap ∧ va_T .int tG 15 (fun j => .int (sm_tab 1 j)) (fun q => base ≤ q) U U.heap)
def sm_Lk (D : va_G) (cyI cyB : ClassId) (base : Nat) (ρ : Nat → Nat) (s : State) (H : Heap) (locs : List Loc) (N : Nat) (I : sm_Im) (L : sm_Lm) (P : sm_Pm) : Prop :=
  va_K D vwCl (sm_ty cyI cyB) s ∧ va_P D vwCl (sm_cw cyI cyB base ρ N I L P) H ∧ va_S (fun q => base ≤ q) s.heap H locs ∧ N ≤ 1000
def sm_Go (p : Program) (l : Launch) (e : Env) (R : Room) (s : State) (m : MethodId) (args : Array Value) (below : List Frame) (meth : Method) (c : Code) (Q : State → Prop) (D : va_G) (cyI cyB : ClassId) (base : Nat) (ρ : Nat → Nat) (nL N0 : Nat) (t : sm_St) : Prop :=
  ∀ (H : Heap) (locs : List Loc) (lsr : Array Slot), sm_Lk D cyI cyB base ρ s H locs t.2.2.2.1 t.2.2.2.2.1 t.2.2.2.2.2.1 t.2.2.2.2.2.2 → sm_lh ρ lsr nL t.2.1 → N0 ≤ t.2.2.2.1 →
    W p l e R s m args below meth c H locs (t.2.2.2.1 - N0) (sm_sl t.2.2.2.1 - sm_sl N0) Q (F0 m t.1 lsr (t.2.2.1.map (sm_cv ρ)))
def sm_ws (j : Nat) : List Cond := .code (sm_y j) (sm_b j) (sm_ml j) (sm_rt j) :: sm_W
def sm_rm (d N N1 : Nat) : Room := { frames := d, cells := N1 - N, slots := sm_sl N1 - sm_sl N, locals := 64 * d }
def sm_Pc (D : va_G) (cyI cyB : ClassId) (base : Nat) (ρ : Nat → Nat) (tL tG : Nat) (as : List Value) (N : Nat) (I : sm_Im) (L : sm_Lm) (P : sm_Pm) : Array Value → State → Prop :=
  va_Pc (as.map (sm_cv ρ)) (fun U => U.heap.size = base + N ∧ va_P D vwCl (sm_cw cyI cyB base ρ N I L P) U.heap ∧ va_K D vwCl (sm_ty cyI cyB) U ∧ sm_En base tL tG U ∧ N ≤ 1000)
def sm_Qc (D : va_G) (cyI cyB : ClassId) (base : Nat) (ρ : Nat → Nat) (r : sm_Rs) : Array Value → State → Outcome → State → Prop := fun _ st oc t =>
  (oc = .returned (r.1.map (sm_cv ρ)) ∧ va_P D vwCl (sm_cw cyI cyB base ρ r.2.1 r.2.2.1 r.2.2.2.1 r.2.2.2.2) t.heap) ∧ va_F (fun q => base ≤ q) st t
theorem sm_En.warm {base tL tG : Nat} {s U : State} {H : Heap} {locs : List Loc} (h : sm_En base tL tG s) (hW : s.WarmedH U.vm) (hS : va_S (fun q => base ≤ q) s.heap H locs) (hU : U.heap = H) : sm_En base tL tG U := by
  obtain ⟨h1, h2, h3, ⟨h4, h5⟩, h6, h7⟩ := h
  subst hU
  have hk : ∀ a : Nat, a < s.heap.size → ¬ (fun q => base ≤ q) a → U.heap[a]? = s.heap[a]? := fun a ha hb => hS.2.1 a ha hb
  refine ⟨h1.moved hW.alike, fun w hw => ?_, Nat.le_trans h3 hS.1, ⟨(h4.kept hk).moved hW.alike, (h5.kept hk).moved hW.alike⟩, (h6.kept hk).moved hW.alike, (h7.kept hk).moved hW.alike⟩
  have := (List.mem_filter.mp hw).2
  cases w with
  | methodLinkNest a i y h => exact va_Nw.warmM hW (h2 _ hw)
  | _ => cases this
theorem sm_Pc.blind {D : va_G} {cyI cyB : ClassId} {base : Nat} {ρ : Nat → Nat} {tL tG : Nat} {as : List Value} {N : Nat} {I : sm_Im} {L : sm_Lm} {P : sm_Pm} : FrameBlind (sm_Pc D cyI cyB base ρ tL tG as N I L P) := by
  intro a U g mk q
  obtain ⟨q0, q1, q2, q3, ⟨e1, e2, e3, ⟨e4, e5⟩, e6, e7⟩, q5⟩ := q
  have al : U.vm.Alike (U.calling g mk a).vm := Vm.Alike.refl U.vm
  refine ⟨q0, q1, q2, va_K.moved al q3, ⟨e1.moved al, fun w hw => ?_, e3, ⟨e4.moved al, e5.moved al⟩, e6.moved al, e7.moved al⟩, q5⟩
  have := (List.mem_filter.mp hw).2
  cases w with
  | methodLinkNest a i y h => exact va_Nw.same rfl rfl (e2 _ hw)
  | _ => cases this
theorem sm_hsz {p : Program} {l : Launch} {e : Env} {R : Room} {s : State} {m : MethodId} {args : Array Value} {below : List Frame} {meth : Method} {c : Code} {T : State} {locs : List Loc} {D : va_G} {cyI cyB : ClassId} {base N0 N z : Nat} {ρ : Nat → Nat} {I : sm_Im} {L : sm_Lm} {P : sm_Pm} (X : Stand p l e R s m args below meth c T locs (N - N0) z) (hs : s.heap.size = base + N0) (hn : N0 ≤ N) (hP : va_P D vwCl (sm_cw cyI cyB base ρ N I L P) T.heap) : T.heap.size = base + N := by
  have h1 : T.heap.size ≤ s.heap.size + (N - N0) := X.same.2.2.1
  have h2 : s.heap.size ≤ T.heap.size := X.same.2.1
  by_cases h : N = N0
  · omega
  · have h3 := (hP (N - 1) _ (sm_cw_get (by omega))).lt
    dsimp only at h3
    omega
theorem sm_rho_in {base tL tG bS k : Nat} (h : k < 1000) : sm_rho base tL tG bS k = base + k := by
  unfold sm_rho
  rw [if_neg (by omega), if_neg (by omega), if_neg (by omega)]
theorem sm_ce_o {cyI cyB : ClassId} {ρ : Nat → Nat} {I : sm_Im} {L : sm_Lm} {P : sm_Pm} {k c : Nat} (h : sm_lay k = .inl c) : sm_ce cyI cyB ρ I L P k = .inr (c, (List.range (sm_nf c)).map (fun j => sm_cv ρ (sm_fv c j k I L P))) := by
  unfold sm_ce; rw [h]
theorem sm_ce_i {cyI cyB : ClassId} {ρ : Nat → Nat} {I : sm_Im} {L : sm_Lm} {P : sm_Pm} {k n : Nat} (h : sm_lay k = .inr (.inl n)) : sm_ce cyI cyB ρ I L P k = .inl (cyI, n, .inl (I k)) := by
  unfold sm_ce; rw [h]
theorem sm_ce_r {cyI cyB : ClassId} {ρ : Nat → Nat} {I : sm_Im} {L : sm_Lm} {P : sm_Pm} {k n : Nat} (h : sm_lay k = .inr (.inr n)) : sm_ce cyI cyB ρ I L P k = .inl (cyB, n, .inr (.inr (.inr (.inr (fun j => (P k j).map ρ))))) := by
  unfold sm_ce; rw [h]
theorem sm_fset {f f1 : Nat → Value} {n k : Nat} {v : Value} (h : ∀ j, j ≠ k → f1 j = f j) (hv : f1 k = v) : (List.range n).map f1 = ((List.range n).map f).set k v := by
  apply List.ext_getElem?
  intro j
  rw [List.getElem?_set, List.getElem?_map]
  by_cases hj : k = j
  · subst hj
    rw [if_pos rfl]
    by_cases hl : k < n
    · rw [List.getElem?_range hl, if_pos (by simpa using hl)]
      simp [hv]
    · rw [List.getElem?_eq_none (by simpa using hl), if_neg (by simpa using hl)]
      rfl
  · rw [if_neg hj, List.getElem?_map]
    by_cases hl : j < n
    · rw [List.getElem?_range hl]
      simp [h j (fun q => hj q.symm)]
    · rw [List.getElem?_eq_none (by simpa using hl)]
      rfl
end
section
/-! what the tables give -/
theorem sm_if {α : Type} {c : Prop} [Decidable c] {a : Option α} {q : α} (h : (if c then a else none) = some q) : c ∧ a = some q := by
  by_cases hc : c
  · rw [if_pos hc] at h; exact ⟨hc, h⟩
  · rw [if_neg hc] at h; cases h
theorem sm_ifn {α : Type} {c : Prop} [Decidable c] {a : Option α} {q : α} (h : (if c then none else a) = some q) : ¬ c ∧ a = some q := by
  by_cases hc : c
  · rw [if_pos hc] at h; cases h
  · rw [if_neg hc] at h; exact ⟨hc, h⟩
theorem sm_nx_eq {pc : Nat} {ls : List (Option Value)} {st : List Value} {N : Nat} {I : sm_Im} {L : sm_Lm} {P : sm_Pm} {t : sm_Rs ⊕ sm_St} (h : sm_nx pc ls st N I L P = some t) : Sum.inr (pc, ls, st, N, I, L, P) = t := Option.some.inj h
theorem sm_to_eq {pc : Nat} {off : Int} {ls : List (Option Value)} {st : List Value} {N : Nat} {I : sm_Im} {L : sm_Lm} {P : sm_Pm} {t : sm_Rs ⊕ sm_St} (h : sm_to pc off ls st N I L P = some t) : ∃ g : Nat, (pc : Int) + off = g ∧ Sum.inr (g, ls, st, N, I, L, P) = t := by
  obtain ⟨h1, h2⟩ := sm_if h
  exact ⟨_, (Int.toNat_of_nonneg h1).symm, sm_nx_eq h2⟩
theorem sm_br_eq {c : Bool} {pc : Nat} {off : Int} {ls : List (Option Value)} {st : List Value} {N : Nat} {I : sm_Im} {L : sm_Lm} {P : sm_Pm} {t : sm_Rs ⊕ sm_St} (h : sm_br c pc off ls st N I L P = some t) : ∃ g : Nat, (pc : Int) + off = g ∧ Sum.inr (bif c then g else pc + 3, ls, st, N, I, L, P) = t := by
  obtain ⟨h1, h2⟩ := sm_if h
  exact ⟨_, (Int.toNat_of_nonneg h1).symm, sm_nx_eq h2⟩
theorem sm_p1_eq {α : Type} {st : List Value} {k : Int32 → List Value → Option α} {q : α} (h : sm_p1 st k = some q) : ∃ x r, st = .int x :: r ∧ k x r = some q := by
  unfold sm_p1 at h
  split at h
  · exact ⟨_, _, rfl, h⟩
  · cases h
theorem sm_p2_eq {α : Type} {st : List Value} {k : Int32 → Int32 → List Value → Option α} {q : α} (h : sm_p2 st k = some q) : ∃ x y r, st = .int y :: .int x :: r ∧ k x y r = some q := by
  unfold sm_p2 at h
  split at h
  · exact ⟨_, _, _, rfl, h⟩
  · cases h
theorem sm_q1_eq {α : Type} {st : List Value} {k : Int64 → List Value → Option α} {q : α} (h : sm_q1 st k = some q) : ∃ x r, st = .long x :: r ∧ k x r = some q := by
  unfold sm_q1 at h
  split at h
  · exact ⟨_, _, rfl, h⟩
  · cases h
theorem sm_q2_eq {α : Type} {st : List Value} {k : Int64 → Int64 → List Value → Option α} {q : α} (h : sm_q2 st k = some q) : ∃ x y r, st = .long y :: .long x :: r ∧ k x y r = some q := by
  unfold sm_q2 at h
  split at h
  · exact ⟨_, _, _, rfl, h⟩
  · cases h
theorem sm_ldi_eq {α : Type} {ls : List (Option Value)} {n : Nat} {k : Int32 → Option α} {q : α} (h : sm_ldi ls n k = some q) : ∃ x, ls[n]? = some (some (.int x)) ∧ k x = some q := by
  unfold sm_ldi at h
  split at h
  · exact ⟨_, by assumption, h⟩
  · cases h
theorem sm_ldl_eq {α : Type} {ls : List (Option Value)} {n : Nat} {k : Int64 → Option α} {q : α} (h : sm_ldl ls n k = some q) : ∃ x, ls[n]? = some (some (.long x)) ∧ k x = some q := by
  unfold sm_ldl at h
  split at h
  · exact ⟨_, by assumption, h⟩
  · cases h
theorem sm_lda_eq {α : Type} {ls : List (Option Value)} {n : Nat} {k : Option Nat → Option α} {q : α} (h : sm_lda ls n k = some q) : (∃ x, ls[n]? = some (some (.ref x)) ∧ k (some x) = some q) ∨ (ls[n]? = some (some .null) ∧ k none = some q) := by
  unfold sm_lda at h
  split at h
  · exact Or.inl ⟨_, by assumption, h⟩
  · exact Or.inr ⟨by assumption, h⟩
  · cases h
theorem sm_pa_eq {α : Type} {st : List Value} {k : Option Nat → List Value → Option α} {q : α} (h : sm_pa st k = some q) : (∃ x r, st = .ref x :: r ∧ k (some x) r = some q) ∨ (∃ r, st = .null :: r ∧ k none r = some q) := by
  unfold sm_pa at h
  split at h
  · exact Or.inl ⟨_, _, rfl, h⟩
  · exact Or.inr ⟨_, rfl, h⟩
  · cases h
theorem sm_cl12 {c : Nat} {q : vw_C} (hq : vwCl[c]? = some q) : c < 12 := by
  have := (List.getElem?_eq_some_iff.mp hq).1
  exact this
def sm_kt (k : Nat) (ty : FieldType) : Prop := (k = 0 ∧ ty = .int) ∨ (k = 1 ∧ ty = .boolean) ∨ (k = 2 ∧ ty = .long) ∨ (k = 3 ∧ ((∃ n, ty = .object n) ∨ ∃ n, ty = .array n))
theorem sm_cls_ok {c : Nat} {q : vw_C} (hq : vwCl[c]? = some q) : q.2.2 = sm_nf c ∧ (∀ w ∈ u_ws q.1 q.2.1 q.2.2, w ∈ sm_W) ∧ Cond.instantiable q.1 (sm_nf c) ∈ sm_W ∧ Cond.initialized q.1 ∈ sm_W ∧ q.1 = sm_cn c ∧
    (∀ k, k < q.2.2 → (q.2.1 k).1 = q.1 ∧ (q.2.1 k).2.2.2 = sm_ff c k ∧ ∃ ty, parseFieldDescriptor (q.2.1 k).2.2.1 = some ty ∧ sm_kt (sm_fk c k) ty) ∧ (∀ a, a < q.2.2 → ∀ b, b < q.2.2 → a ≠ b → (q.2.1 a).2.1 ≠ (q.2.1 b).2.1) := by
  have h1 := List.all_eq_true.mp sm_cl_ok c (List.mem_range.mpr (sm_cl12 hq))
  unfold sm_clOk at h1
  rw [hq] at h1
  dsimp only at h1
  simp only [Bool.and_eq_true, decide_eq_true_eq, List.all_eq_true, List.mem_range, Bool.or_eq_true, beq_iff_eq] at h1
  obtain ⟨⟨⟨⟨⟨a1, a2⟩, a3⟩, a4⟩, a5⟩, a6⟩ := h1
  refine ⟨a1, fun w hw => ?_, sm_wd_in a3, sm_wd_in a4, a5, fun k hk => ?_, fun a ha b hb hab => ?_⟩
  · obtain ⟨k, hk, rfl⟩ := List.mem_map.mp hw
    exact sm_wd_in (a2 k (by rw [← a1]; exact List.mem_range.mp hk))
  · obtain ⟨⟨⟨b1, b2⟩, b3⟩, -⟩ := a6 k (by rw [← a1]; exact hk)
    refine ⟨b1, b2, ?_⟩
    cases hp : parseFieldDescriptor (q.2.1 k).2.2.1 with
    | none => rw [hp] at b3; cases b3
    | some ty =>
      rw [hp] at b3
      refine ⟨ty, rfl, ?_⟩
      cases ty with
      | int => exact Or.inl ⟨beq_iff_eq.mp b3, rfl⟩
      | boolean => exact Or.inr (Or.inl ⟨beq_iff_eq.mp b3, rfl⟩)
      | long => exact Or.inr (Or.inr (Or.inl ⟨beq_iff_eq.mp b3, rfl⟩))
      | object n => exact Or.inr (Or.inr (Or.inr ⟨beq_iff_eq.mp b3, Or.inl ⟨n, rfl⟩⟩))
      | array n => exact Or.inr (Or.inr (Or.inr ⟨beq_iff_eq.mp b3, Or.inr ⟨n, rfl⟩⟩))
      | _ => cases b3
  · obtain ⟨-, b4⟩ := a6 a (by rw [← a1]; exact ha)
    rcases b4 b (by rw [← a1]; exact hb) with z | z
    · exact absurd z hab
    · exact z
theorem sm_fld_ok {o x c k z : Nat} (h : sm_fld o x = some (c, k, z)) : ∃ q : vw_C, vwCl[c]? = some q ∧ k < q.2.2 ∧ Cond.fieldLink (sm_cn o) x q.1 (q.2.1 k).2.1 (q.2.1 k).2.2.1 ∈ sm_W := by
  have h1 := List.all_eq_true.mp sm_fl_ok _ (sm_fi2_mem h)
  unfold sm_flOk at h1
  dsimp only at h1
  cases hq : vwCl[c]? with
  | none => rw [hq] at h1; cases h1
  | some q =>
    rw [hq] at h1
    dsimp only at h1
    rw [Bool.and_eq_true, decide_eq_true_eq] at h1
    exact ⟨q, rfl, h1.1, sm_wd_in h1.2⟩
set_option maxRecDepth 100000 in
theorem sm_m_ok {j : Nat} (hj : j < 216) : sm_mOk (sm_m j) = true := by
  have h7 := sm_mt7_ok
  have key : ∀ q ∈ sm_mt.take 216, sm_mOk q = true := by
    have e : sm_mt.take 216 = sm_mt0 ++ (sm_mt1 ++ (sm_mt2 ++ (sm_mt3 ++ (sm_mt4 ++ (sm_mt5 ++ (sm_mt6 ++ sm_mt7.take 6)))))) := by rfl
    rw [e]
    intro q hq
    simp only [List.mem_append] at hq
    rcases hq with h | h | h | h | h | h | h | h
    · exact List.all_eq_true.mp sm_mt0_ok q h
    · exact List.all_eq_true.mp sm_mt1_ok q h
    · exact List.all_eq_true.mp sm_mt2_ok q h
    · exact List.all_eq_true.mp sm_mt3_ok q h
    · exact List.all_eq_true.mp sm_mt4_ok q h
    · exact List.all_eq_true.mp sm_mt5_ok q h
    · exact List.all_eq_true.mp sm_mt6_ok q h
    · exact List.all_eq_true.mp h7 q h
  have hl : sm_mt.length = 217 := by rfl
  have hg : sm_mt[j]? = some (sm_m j) := by
    unfold sm_m
    rw [List.getD_eq_getElem?_getD, List.getElem?_eq_getElem (by omega)]
    rfl
  exact key _ (List.mem_of_getElem? (i := j) (by rw [List.getElem?_take_of_lt hj]; exact hg))
theorem sm_m_facts {j : Nat} (hj : j < 216) : Cond.code (sm_y j) (sm_b j) (sm_ml j) (sm_rt j) ∈ sm_W ∧ (sm_kd j = 0 → Cond.static (sm_y j) ∈ sm_W) ∧ (¬ sm_kd j = 0 → Cond.instanceMethod (sm_y j) ∈ sm_W) ∧ (sm_kd j = 1 → Cond.selects (sm_y j).cls (sm_y j) (sm_y j) ∈ sm_W) ∧ Cond.initialized (sm_y j).cls ∈ sm_W ∧ (sm_y j).cls = sm_cn (sm_o j) ∧ plainFor (sm_y j) = true ∧
    ((sm_y j).cls ≠ "java/lang/invoke/MethodHandle" ∧ (sm_y j).cls ≠ "java/lang/invoke/VarHandle" ∧ (parseMethodDescriptor (sm_y j).desc).map (fun d => d.parameters.length) = some (sm_np j)) ∧ (sm_kd j = 2 → (sm_y j).name = "<init>" ∧ sm_rt j = none) := by
  have h := sm_m_ok hj
  unfold sm_mOk at h
  simp only [Bool.and_eq_true, decide_eq_true_eq] at h
  obtain ⟨⟨⟨⟨⟨⟨⟨h1, h2⟩, h3⟩, h4⟩, h5⟩, h6⟩, h7⟩, h8⟩ := h
  refine ⟨sm_wd_in h1, fun q => ?_, fun q => ?_, fun q => ?_, sm_wd_in h4, h5, h6, h7, fun q => ?_⟩
  · rw [if_pos (show (sm_m j).2.2.2.2.2.1 = 0 from q)] at h2
    exact sm_wd_in h2
  · rw [if_neg (show ¬ (sm_m j).2.2.2.2.2.1 = 0 from q)] at h2
    exact sm_wd_in h2
  · rw [if_pos (show (sm_m j).2.2.2.2.2.1 = 1 from q)] at h3
    exact sm_wd_in h3
  · rw [if_pos (show (sm_m j).2.2.2.2.2.1 = 2 from q), decide_eq_true_eq] at h8
    exact h8
theorem sm_cal_ok {o x j z k : Nat} (h : sm_cal o x = some (j, z, k)) : j < 216 ∧ ((k = 0 ∧ Cond.methodLink (sm_cn o) x (sm_y j) ∈ sm_W) ∨ (¬ k = 0 ∧ Cond.methodLinkNest (sm_cn o) x (sm_y j) "FeltByTwin" ∈ sm_nest)) := by
  have h1 := List.all_eq_true.mp sm_ca_ok _ (sm_fi2_mem h)
  unfold sm_caOk at h1
  dsimp only at h1
  rw [Bool.and_eq_true, decide_eq_true_eq] at h1
  refine ⟨h1.1, ?_⟩
  by_cases hk : k = 0
  · rw [if_pos hk] at h1
    exact Or.inl ⟨hk, sm_wd_in h1.2⟩
  · rw [if_neg hk, decide_eq_true_eq] at h1
    exact Or.inr ⟨hk, List.mem_filter.mpr ⟨List.mem_of_getElem? h1.2, rfl⟩⟩
theorem sm_ob_in {o x z : Nat} (h : sm_ob o x = some z) : Cond.methodLink (sm_cn o) x objectInit ∈ sm_W := sm_wd_in (List.all_eq_true.mp sm_ob_ok _ (sm_fi2_mem h))
theorem sm_ac_in {o x z : Nat} (h : sm_ac o x = some z) : Cond.methodLink (sm_cn o) x arraycopyName ∈ sm_W := sm_wd_in (List.all_eq_true.mp sm_ac_ok _ (sm_fi2_mem h))
theorem sm_ki_in {o x z : Nat} {v : Int32} (h : sm_ki o x = some (v, z)) : Cond.constant (sm_cn o) x v ∈ sm_W := sm_wd_in (List.all_eq_true.mp sm_ki_ok _ (sm_fi2_mem h))
theorem sm_kl_in {o x z : Nat} {v : Int64} (h : sm_kl o x = some (v, z)) : Cond.constantLong (sm_cn o) x v ∈ sm_W := sm_wd_in (List.all_eq_true.mp sm_kl_ok _ (sm_fi2_mem h))
theorem sm_nw_in {o x k z : Nat} (h : sm_nw o x = some (k, z)) : k < 12 ∧ Cond.classLink (sm_cn o) x (sm_cn k) ∈ sm_W := by
  have h1 := List.all_eq_true.mp sm_nw_ok _ (sm_fi2_mem h)
  dsimp only at h1
  rw [Bool.and_eq_true, decide_eq_true_eq] at h1
  exact ⟨h1.1, sm_wd_in h1.2⟩
theorem sm_st_in {o x k z : Nat} (h : sm_stf o x = some (k, z)) : (k = 0 ∧ Cond.fieldLink (sm_cn o) x "FeltByTwin$News" "LESSER" "[I" ∈ sm_W) ∨ (k = 1 ∧ Cond.fieldLink (sm_cn o) x "FeltByTwin$News" "GREATER" "[I" ∈ sm_W) := by
  have h1 := List.all_eq_true.mp sm_st_ok _ (sm_fi2_mem h)
  dsimp only at h1
  rw [Bool.and_eq_true, decide_eq_true_eq] at h1
  by_cases hk : k = 0
  · rw [if_pos hk] at h1
    exact Or.inl ⟨hk, sm_wd_in h1.2⟩
  · rw [if_neg hk] at h1
    exact Or.inr ⟨by omega, sm_wd_in h1.2⟩
theorem sm_vw {c : Nat} (h : c < 12) : ∃ q : vw_C, vwCl[c]? = some q := ⟨_, List.getElem?_eq_getElem (show c < vwCl.length from h)⟩
end
section
section SMS
variable {p : Program} {l : Launch} {e : Env} {R : Room} {s : State} {m : MethodId} {args : Array Value} {below : List Frame} {meth : Method} {c : Code} {Q : State → Prop} {D : va_G} {cyI cyB : ClassId} {base tL tG bS N0 i pc N : Nat} {ls : List (Option Value)} {r : List Value} {I : sm_Im} {L : sm_Lm} {P : sm_Pm}
theorem sm_a_get (hx : p.tables.exec = Jvm.exec) (hb : c.code = sm_b i) (hown : s.vm.findClass (sm_cn (sm_o i)) = some m.cls) (hts : ∀ w ∈ sm_W, w.before args s = true) {x c0 k z a : Nat} (hd : decode (sm_b i) pc = .ok (.getfield x, 3)) (hf : sm_fld (sm_o i) x = some (c0, k, z)) (ha : a < N) (hy : sm_lay a = .inl c0)
    (g : sm_Go p l e R s m args below meth c Q D cyI cyB base (sm_rho base tL tG bS) (sm_ml i) N0 (pc + 3, ls, sm_fv c0 k a I L P :: r, N, I, L, P)) : sm_Go p l e R s m args below meth c Q D cyI cyB base (sm_rho base tL tG bS) (sm_ml i) N0 (pc, ls, .ref a :: r, N, I, L, P) := by
  intro H locs lsr hk hl hn
  obtain ⟨hK, hP, hS, hN⟩ := id hk
  obtain ⟨⟨C, T, n⟩, hq, hkn, hlink⟩ := sm_fld_ok hf
  obtain ⟨e1, e2, -, -, -, e6, -⟩ := sm_cls_ok hq
  have hw := sm_cw_get (cyI := cyI) (cyB := cyB) (base := base) (ρ := sm_rho base tL tG bS) (I := I) (L := L) (P := P) ha
  rw [sm_ce_o hy] at hw
  have hρ : sm_rho base tL tG bS a = base + a := sm_rho_in (show a < 1000 by dsimp only at hN; omega)
  show W p l e R s m args below meth c H locs (N - N0) (sm_sl N - sm_sl N0) Q (F0 m pc lsr (.ref (sm_rho base tL tG bS a) :: r.map (sm_cv (sm_rho base tL tG bS))))
  rw [hρ]
  refine va_get (ref := C) hx hb hts e2 hown hK hP a hw hq k hkn (hts _ hlink) (fun y hy => by have := (e6 k hkn).1; dsimp only at this; rw [← this]; exact hy) (v := sm_cv (sm_rho base tL tG bS) (sm_fv c0 k a I L P)) ?_ hd (g H locs lsr hk hl hn)
  rw [List.getElem?_map, List.getElem?_range (by dsimp only at e1 hkn; omega)]
  rfl
theorem sm_a_put (hx : p.tables.exec = Jvm.exec) (hb : c.code = sm_b i) (hown : s.vm.findClass (sm_cn (sm_o i)) = some m.cls) (hts : ∀ w ∈ sm_W, w.before args s = true) (hin : sm_kd i = 2 → meth.name = "<init>") {x c0 k z a : Nat} {v : Value} {I1 : sm_Im} {L1 : sm_Lm} {P1 : sm_Pm} (hd : decode (sm_b i) pc = .ok (.putfield x, 3)) (hf : sm_fld (sm_o i) x = some (c0, k, z)) (ha : a < N) (hy : sm_lay a = .inl c0)
    (hfin : sm_ff c0 k = false ∨ (sm_kd i = 2 ∧ sm_o i = c0)) (hfit : ∀ ty, sm_kt (sm_fk c0 k) ty → narrow ty (sm_cv (sm_rho base tL tG bS) v) = sm_cv (sm_rho base tL tG bS) v ∧ fits ty (sm_cv (sm_rho base tL tG bS) v) = true)
    (h1 : ∀ b, b ≠ a → I1 b = I b) (h2 : ∀ b, b ≠ a → L1 b = L b) (h3 : ∀ b, b ≠ a → P1 b = P b) (h4 : ∀ j, j ≠ k → sm_fv c0 j a I1 L1 P1 = sm_fv c0 j a I L P) (h5 : sm_fv c0 k a I1 L1 P1 = v)
    (g : sm_Go p l e R s m args below meth c Q D cyI cyB base (sm_rho base tL tG bS) (sm_ml i) N0 (pc + 3, ls, r, N, I1, L1, P1)) : sm_Go p l e R s m args below meth c Q D cyI cyB base (sm_rho base tL tG bS) (sm_ml i) N0 (pc, ls, v :: .ref a :: r, N, I, L, P) := by
  intro H locs lsr hk hl hn
  obtain ⟨hK, hP, hS, hN⟩ := id hk
  dsimp only at hN hP
  obtain ⟨⟨C, T, n⟩, hq, hkn, hlink⟩ := sm_fld_ok hf
  obtain ⟨e1, e2, -, -, e5, e6, e7⟩ := sm_cls_ok hq
  dsimp only at e1 hkn e2 e5 e6 e7 hlink
  have hw := sm_cw_get (cyI := cyI) (cyB := cyB) (base := base) (ρ := sm_rho base tL tG bS) (I := I) (L := L) (P := P) ha
  rw [sm_ce_o hy] at hw
  have hρ : sm_rho base tL tG bS a = base + a := sm_rho_in (show a < 1000 by omega)
  show W p l e R s m args below meth c H locs (N - N0) (sm_sl N - sm_sl N0) Q (F0 m pc lsr (sm_cv (sm_rho base tL tG bS) v :: .ref (sm_rho base tL tG bS a) :: r.map (sm_cv (sm_rho base tL tG bS))))
  rw [hρ]
  obtain ⟨f1, f2, ty, f3, f4⟩ := e6 k hkn
  have hset := sm_cw_set (cyI := cyI) (cyB := cyB) (base := base) (ρ := sm_rho base tL tG bS) (I := I) (L := L) (P := P) (I1 := I1) (L1 := L1) (P1 := P1) (e := .inr (c0, ((List.range (sm_nf c0)).map (fun j => sm_cv (sm_rho base tL tG bS) (sm_fv c0 j a I L P))).set k (sm_cv (sm_rho base tL tG bS) v))) ha (by
    rw [sm_ce_o hy]
    refine congrArg (fun q => Sum.inr (c0, q)) (sm_fset (fun j hj => ?_) ?_)
    · rw [h4 j hj]
    · rw [h5]) h1 h2 h3
  have fin : ∀ (H1 : Heap) (locs1 : List Loc), va_P D vwCl ((sm_cw cyI cyB base (sm_rho base tL tG bS) N I L P).set a (base + a, .inr (c0, ((List.range (sm_nf c0)).map (fun j => sm_cv (sm_rho base tL tG bS) (sm_fv c0 j a I L P))).set k (sm_cv (sm_rho base tL tG bS) v)))) H1 → va_S (fun q => base ≤ q) s.heap H1 locs1 →
      W p l e R s m args below meth c H1 locs1 (N - N0) (sm_sl N - sm_sl N0) Q (F0 m (pc + 3) lsr (r.map (sm_cv (sm_rho base tL tG bS)))) := by
    intro H1 locs1 hP1 hS1
    rw [hset] at hP1
    exact g H1 locs1 lsr ⟨hK, hP1, hS1, hN⟩ hl hn
  have hlen : k < ((List.range (sm_nf c0)).map (fun j => sm_cv (sm_rho base tL tG bS) (sm_fv c0 j a I L P))).length := by
    rw [List.length_map, List.length_range]; omega
  have hty : ∀ k, k < n → parseFieldDescriptor (T k).2.2.1 = some ((fun k => (parseFieldDescriptor (T k).2.2.1).getD .int) k) := fun k hk => by
    obtain ⟨-, -, ty, e, -⟩ := e6 k hk
    dsimp only at e ⊢
    rw [e]; rfl
  cases hff : sm_ff c0 k with
  | false =>
    exact va_put (ref := C) (ty := ty) hx hb hts e2 (fun k => (parseFieldDescriptor (T k).2.2.1).getD .int) hty e7 hown hK hP (sm_D cyI cyB base (sm_rho base tL tG bS) N I L P) hS a hw hq k hkn (hts _ hlink) (fun y hy => by rw [← f1]; exact hy) (by rw [f2]; exact hff) f3 (hfit ty f4).1 (hfit ty f4).2 hlen hd (fun H1 locs1 hP1 _ hS1 => fin H1 locs1 hP1 hS1)
  | true =>
    rcases hfin with z | ⟨z1, z2⟩
    · rw [hff] at z; cases z
    · exact va_putF (ref := C) (ty := ty) hx hb hts e2 (fun k => (parseFieldDescriptor (T k).2.2.1).getD .int) hty e7 hown hK hP (sm_D cyI cyB base (sm_rho base tL tG bS) N I L P) hS a hw hq k hkn (hts _ hlink) (fun y hy => by rw [← f1]; exact hy) (by rw [f2]; exact hff) (hin z1) (by rw [f1, e5, z2]) f3 (hfit ty f4).1 (hfit ty f4).2 hlen hd (fun H1 locs1 hP1 _ hS1 => fin H1 locs1 hP1 hS1)
theorem sm_a_iald (hx : p.tables.exec = Jvm.exec) (hb : c.code = sm_b i) {x : Int32} {n a : Nat} (hd : decode (sm_b i) pc = .ok (.iaload, 1)) (ha : a < N) (hy : sm_lay a = .inr (.inl n)) (hin : ¬ (x < 0 ∨ n ≤ x.toNatClampNeg))
    (g : sm_Go p l e R s m args below meth c Q D cyI cyB base (sm_rho base tL tG bS) (sm_ml i) N0 (pc + 1, ls, .int (I a x.toNatClampNeg) :: r, N, I, L, P)) : sm_Go p l e R s m args below meth c Q D cyI cyB base (sm_rho base tL tG bS) (sm_ml i) N0 (pc, ls, .int x :: .ref a :: r, N, I, L, P) := by
  intro H locs lsr hk hl hn
  obtain ⟨hK, hP, hS, hN⟩ := id hk
  dsimp only at hN hP
  have hw := sm_cw_get (cyI := cyI) (cyB := cyB) (base := base) (ρ := sm_rho base tL tG bS) (I := I) (L := L) (P := P) ha
  rw [sm_ce_i hy] at hw
  have hρ : sm_rho base tL tG bS a = base + a := sm_rho_in (show a < 1000 by omega)
  show W p l e R s m args below meth c H locs (N - N0) (sm_sl N - sm_sl N0) Q (F0 m pc lsr (.int x :: .ref (sm_rho base tL tG bS a) :: r.map (sm_cv (sm_rho base tL tG bS))))
  rw [hρ]
  exact va_iald hx hb hK hP a 0 hw rfl hin hd (g H locs lsr hk hl hn)
theorem sm_a_iast (hx : p.tables.exec = Jvm.exec) (hb : c.code = sm_b i) {x v : Int32} {n a : Nat} (hd : decode (sm_b i) pc = .ok (.iastore, 1)) (ha : a < N) (hy : sm_lay a = .inr (.inl n)) (hin : ¬ (x < 0 ∨ n ≤ x.toNatClampNeg))
    (g : sm_Go p l e R s m args below meth c Q D cyI cyB base (sm_rho base tL tG bS) (sm_ml i) N0 (pc + 1, ls, r, N, sm_up I a x.toNatClampNeg v, L, P)) : sm_Go p l e R s m args below meth c Q D cyI cyB base (sm_rho base tL tG bS) (sm_ml i) N0 (pc, ls, .int v :: .int x :: .ref a :: r, N, I, L, P) := by
  intro H locs lsr hk hl hn
  obtain ⟨hK, hP, hS, hN⟩ := id hk
  dsimp only at hN hP
  have hw := sm_cw_get (cyI := cyI) (cyB := cyB) (base := base) (ρ := sm_rho base tL tG bS) (I := I) (L := L) (P := P) ha
  rw [sm_ce_i hy] at hw
  have hρ : sm_rho base tL tG bS a = base + a := sm_rho_in (show a < 1000 by omega)
  show W p l e R s m args below meth c H locs (N - N0) (sm_sl N - sm_sl N0) Q (F0 m pc lsr (.int v :: .int x :: .ref (sm_rho base tL tG bS a) :: r.map (sm_cv (sm_rho base tL tG bS))))
  rw [hρ]
  refine va_iast hx hb hK hP (sm_D cyI cyB base (sm_rho base tL tG bS) N I L P) hS a 0 hw rfl hin hd fun H1 locs1 hP1 _ hS1 => ?_
  rw [sm_cw_set (I1 := sm_up I a x.toNatClampNeg v) (L1 := L) (P1 := P) ha (by
    rw [sm_ce_i hy]
    refine congrArg (fun q => Sum.inl (cyI, n, Sum.inl q)) (funext fun j => ?_)
    unfold sm_up upd
    by_cases hj : j = x.toNatClampNeg <;> simp [hj]) (fun b hb => funext fun j => by unfold sm_up; simp [hb]) (fun _ _ => rfl) (fun _ _ => rfl)] at hP1
  exact g H1 locs1 lsr ⟨hK, hP1, hS1, hN⟩ hl hn
theorem sm_a_aald (hx : p.tables.exec = Jvm.exec) (hb : c.code = sm_b i) {x : Int32} {n a : Nat} (hd : decode (sm_b i) pc = .ok (.aaload, 1)) (ha : a < N) (hy : sm_lay a = .inr (.inr n)) (hin : ¬ (x < 0 ∨ n ≤ x.toNatClampNeg))
    (g : sm_Go p l e R s m args below meth c Q D cyI cyB base (sm_rho base tL tG bS) (sm_ml i) N0 (pc + 1, ls, va_rf (P a x.toNatClampNeg) :: r, N, I, L, P)) : sm_Go p l e R s m args below meth c Q D cyI cyB base (sm_rho base tL tG bS) (sm_ml i) N0 (pc, ls, .int x :: .ref a :: r, N, I, L, P) := by
  intro H locs lsr hk hl hn
  obtain ⟨hK, hP, hS, hN⟩ := id hk
  dsimp only at hN hP
  have hw := sm_cw_get (cyI := cyI) (cyB := cyB) (base := base) (ρ := sm_rho base tL tG bS) (I := I) (L := L) (P := P) ha
  rw [sm_ce_r hy] at hw
  have hρ : sm_rho base tL tG bS a = base + a := sm_rho_in (show a < 1000 by omega)
  show W p l e R s m args below meth c H locs (N - N0) (sm_sl N - sm_sl N0) Q (F0 m pc lsr (.int x :: .ref (sm_rho base tL tG bS a) :: r.map (sm_cv (sm_rho base tL tG bS))))
  rw [hρ]
  have gg := g H locs lsr hk hl hn
  dsimp only [List.map] at gg
  rw [sm_cv_rf] at gg
  exact va_aldq (C := "FeltByTwin$Birth") hx hb hK hP a 1 hw rfl hin hd gg
theorem sm_a_aast (hx : p.tables.exec = Jvm.exec) (hb : c.code = sm_b i) {x : Int32} {n a v : Nat} (hd : decode (sm_b i) pc = .ok (.aastore, 1)) (ha : a < N) (hv : v < N) (hvy : sm_lay v = .inl 0) (hy : sm_lay a = .inr (.inr n)) (hin : ¬ (x < 0 ∨ n ≤ x.toNatClampNeg))
    (g : sm_Go p l e R s m args below meth c Q D cyI cyB base (sm_rho base tL tG bS) (sm_ml i) N0 (pc + 1, ls, r, N, I, L, sm_up P a x.toNatClampNeg (some v))) : sm_Go p l e R s m args below meth c Q D cyI cyB base (sm_rho base tL tG bS) (sm_ml i) N0 (pc, ls, .ref v :: .int x :: .ref a :: r, N, I, L, P) := by
  intro H locs lsr hk hl hn
  obtain ⟨hK, hP, hS, hN⟩ := id hk
  dsimp only at hN hP
  have hw := sm_cw_get (cyI := cyI) (cyB := cyB) (base := base) (ρ := sm_rho base tL tG bS) (I := I) (L := L) (P := P) ha
  rw [sm_ce_r hy] at hw
  have hw2 := sm_cw_get (cyI := cyI) (cyB := cyB) (base := base) (ρ := sm_rho base tL tG bS) (I := I) (L := L) (P := P) hv
  rw [sm_ce_o hvy] at hw2
  have hρ : sm_rho base tL tG bS a = base + a := sm_rho_in (show a < 1000 by omega)
  have hρv : sm_rho base tL tG bS v = base + v := sm_rho_in (show v < 1000 by omega)
  show W p l e R s m args below meth c H locs (N - N0) (sm_sl N - sm_sl N0) Q (F0 m pc lsr (.ref (sm_rho base tL tG bS v) :: .int x :: .ref (sm_rho base tL tG bS a) :: r.map (sm_cv (sm_rho base tL tG bS))))
  rw [hρ, hρv]
  refine va_astq (r := (RX0, TX0, 4)) hx hb hK hP (sm_D cyI cyB base (sm_rho base tL tG bS) N I L P) hS a 1 v 0 hw rfl hw2 rfl hin hd fun H1 locs1 hP1 _ hS1 => ?_
  rw [sm_cw_set (I1 := I) (L1 := L) (P1 := sm_up P a x.toNatClampNeg (some v)) ha (by
    rw [sm_ce_r hy]
    refine congrArg (fun q => Sum.inl (cyB, n, Sum.inr (Sum.inr (Sum.inr (Sum.inr q))))) (funext fun j => ?_)
    unfold sm_up va_up
    by_cases hj : j = x.toNatClampNeg
    · simp [hj, hρv]
    · simp [hj]) (fun _ _ => rfl) (fun _ _ => rfl) (fun b hb => funext fun j => by unfold sm_up; simp [hb])] at hP1
  exact g H1 locs1 lsr ⟨hK, hP1, hS1, hN⟩ hl hn
end SMS
end
section
set_option maxRecDepth 100000 in
theorem sm_w_arr : Cond.arrayClass .int ∈ sm_W := sm_wd_in (i := 83) (by decide +kernel)
set_option maxRecDepth 100000 in
theorem sm_w_oi : Cond.instanceMethod objectInit ∈ sm_W := sm_wd_in (i := 68) (by decide +kernel)
set_option maxRecDepth 100000 in
theorem sm_w_oc : Cond.code objectInit ⟨#[0xb1]⟩ 1 none ∈ sm_W := sm_wd_in (i := 69) (by decide +kernel)
set_option maxRecDepth 100000 in
theorem sm_w_as : Cond.static arraycopyName ∈ sm_W := sm_wd_in (i := 793) (by decide +kernel)
set_option maxRecDepth 100000 in
theorem sm_w_an : Cond.native arraycopyName ∈ sm_W := sm_wd_in (i := 794) (by decide +kernel)
set_option maxRecDepth 100000 in
theorem sm_w_sy : Cond.initialized "java/lang/System" ∈ sm_W := sm_wd_in (i := 61) (by decide +kernel)
theorem sm_good {j : Nat} (hj : j < 216) : GoodIn sm_W (sm_ws j) := by
  intro w hw
  have h : w ∈ sm_W := by
    rcases List.mem_cons.mp hw with rfl | h
    · exact (sm_m_facts hj).1
    · exact h
  exact ⟨h, good_of_word (List.mem_filter.mp h).2⟩
section SMT
variable {p : Program} {l : Launch} {e : Env} {R : Room} {s : State} {m : MethodId} {args : Array Value} {below : List Frame} {meth : Method} {c : Code} {Q : State → Prop} {D : va_G} {cyI cyB : ClassId} {base tL tG bS N0 i pc N Nf d : Nat} {ls : List (Option Value)} {r : List Value} {I : sm_Im} {L : sm_Lm} {P : sm_Pm}
theorem sm_kept {H H1 : Heap} {h : Nat} {ρ : Nat → Nat} (hP : va_P D vwCl (sm_cw cyI cyB base ρ N I L P) H) (hsz : H.size = h) (o1 : ∀ q : Nat, q < h → H1[q]? = H[q]?) : va_P D vwCl (sm_cw cyI cyB base ρ N I L P) H1 :=
  hP.kept (fun k x hx => o1 x.1 (by rw [← hsz]; exact (hP k x hx).lt))
theorem sm_S_new {H H1 : Heap} {locs : List Loc} {h : Nat} (hS : va_S (fun q => base ≤ q) s.heap H locs) (hsz : H.size = h) (z1 : H1.size = h + 1) (o1 : ∀ q : Nat, q < h → H1[q]? = H[q]?) : va_S (fun q => base ≤ q) s.heap H1 locs :=
  ⟨Nat.le_trans hS.1 (by omega), fun x h1 h2 => (o1 x (by have := hS.1; omega)).trans (hS.2.1 x h1 h2), hS.2.2⟩
theorem sm_P_new {H1 : Heap} {ρ : Nat → Nat} {I1 : sm_Im} {L1 : sm_Lm} {P1 : sm_Pm} (hP : va_P D vwCl (sm_cw cyI cyB base ρ N I L P) H1) (ha : va_at D vwCl (base + N, sm_ce cyI cyB ρ I1 L1 P1 N) H1) (h1 : ∀ k, k ≠ N → I1 k = I k) (h2 : ∀ k, k ≠ N → L1 k = L k) (h3 : ∀ k, k ≠ N → P1 k = P k) : va_P D vwCl (sm_cw cyI cyB base ρ (N + 1) I1 L1 P1) H1 := by
  rw [← sm_cw_add (e := sm_ce cyI cyB ρ I1 L1 P1 N) rfl h1 h2 h3]
  refine hP.app fun k x hx => ?_
  have hz : k < 1 := (List.getElem?_eq_some_iff.mp hx).1
  rw [show k = 0 by omega] at hx
  cases hx
  exact ha
theorem sm_a_new (hx : p.tables.exec = Jvm.exec) (hb : c.code = sm_b i) (hown : s.vm.findClass (sm_cn (sm_o i)) = some m.cls) (hts : ∀ w ∈ sm_W, w.before args s = true) (hs : s.heap.size = base + N0) (hNf : Nf - N0 ≤ R.cells ∧ sm_sl Nf - sm_sl N0 ≤ R.slots) {x k z : Nat} (hd : decode (sm_b i) pc = .ok (.new x, 3)) (hf : sm_nw (sm_o i) x = some (k, z)) (hN1 : N < sm_NN) (hy : sm_lay N = .inl k) (hle : N + 1 ≤ Nf)
    (g : sm_Go p l e R s m args below meth c Q D cyI cyB base (sm_rho base tL tG bS) (sm_ml i) N0 (pc + 3, ls, .ref N :: r, N + 1, sm_z I N 0, sm_z L N 0, sm_z P N none)) : sm_Go p l e R s m args below meth c Q D cyI cyB base (sm_rho base tL tG bS) (sm_ml i) N0 (pc, ls, r, N, I, L, P) := by
  intro H locs lsr hk hl hn T hT X
  obtain ⟨hK, hP, hS, hN⟩ := id hk
  dsimp only at hN hP hn X
  subst hT
  have hsz := sm_hsz X hs hn hP
  obtain ⟨hk12, hclink⟩ := sm_nw_in hf
  obtain ⟨⟨C, TT, n⟩, hq⟩ := sm_vw hk12
  obtain ⟨e1, e2, e3, e4, e5, e6, -⟩ := sm_cls_ok hq
  dsimp only at e1 e2 e3 e4 e5 e6
  have hKn := hK.1 k _ hq
  dsimp only at hKn
  have hsl := sm_sl_mono hle
  have hsn := sm_sl_mono hn
  have hzz : sm_sl (N + 1) = sm_sl N + n := by
    show sm_sl N + sm_sz N = _
    unfold sm_sz
    rw [hy, e1]
  have hNN : N < 81 := hN1
  refine W.newcK (C := C) (n := n) (h := base + N) (g := F0 m pc lsr (r.map (sm_cv (sm_rho base tL tG bS)))) hx hb hown (hts _ (by rw [e5]; exact hclink)) (hts _ (by rw [e1]; exact e3)) (hts _ e4) rfl hd (by omega) (by omega) hKn.2.1 hsz (fun H1 kC hkC f1 z1 o1 => ?_) T rfl X
  have hP1 := sm_P_new (I1 := sm_z I N 0) (L1 := sm_z L N 0) (P1 := sm_z P N none) (sm_kept hP hsz o1) (by
    rw [sm_ce_o hy]
    refine ⟨_, hq, (u_born (fun k => (parseFieldDescriptor (TT k).2.2.1).getD .int) hts e2 hKn hkC f1 (fun k hk => ?_)).to (fun j hj => ?_)⟩
    · obtain ⟨-, -, ty, e, -⟩ := e6 k hk
      try dsimp only at e ⊢
      rw [e]; rfl
    · obtain ⟨-, -, ty, e, e'⟩ := e6 j hj
      try dsimp only at e ⊢
      rw [e]
      unfold vp_V
      rw [List.getD_eq_getElem?_getD, List.getElem?_map, List.getElem?_range (by omega)]
      show defaultValue ty = sm_cv _ (sm_fv k j N _ _ _)
      unfold sm_fv
      rcases e' with ⟨a, rfl⟩ | ⟨a, rfl⟩ | ⟨a, rfl⟩ | ⟨a, b⟩
      · rw [a]; simp [sm_z, sm_cv, defaultValue]
      · rw [a]; simp [sm_z, sm_cv, defaultValue]
      · rw [a]; simp [sm_z, sm_cv, defaultValue]
      · rw [a]
        rcases b with ⟨n, rfl⟩ | ⟨n, rfl⟩ <;> simp [sm_z, sm_cv, defaultValue, va_rf]) (fun b hb => funext fun j => by unfold sm_z; simp [hb]) (fun b hb => funext fun j => by unfold sm_z; simp [hb]) (fun b hb => funext fun j => by unfold sm_z; simp [hb])
  have gg : W p l e R s m args below meth c H1 locs (N + 1 - N0) (sm_sl (N + 1) - sm_sl N0) Q (F0 m (pc + 3) lsr (.ref (sm_rho base tL tG bS N) :: r.map (sm_cv (sm_rho base tL tG bS)))) := g H1 locs lsr ⟨hK, hP1, sm_S_new hS hsz z1 o1, by show N + 1 ≤ 1000; omega⟩ hl (by show N0 ≤ N + 1; omega)
  rw [sm_rho_in (show N < 1000 by omega), show N + 1 - N0 = N - N0 + 1 by omega, show sm_sl (N + 1) - sm_sl N0 = sm_sl N - sm_sl N0 + n by omega] at gg
  exact gg
theorem sm_a_newa (hx : p.tables.exec = Jvm.exec) (hb : c.code = sm_b i) (hts : ∀ w ∈ sm_W, w.before args s = true) (hs : s.heap.size = base + N0) (hNf : Nf - N0 ≤ R.cells ∧ sm_sl Nf - sm_sl N0 ≤ R.slots) {x : Int32} (hd : decode (sm_b i) pc = .ok (.newarray .int, 2)) (hx0 : ¬ x < 0) (hN1 : N < sm_NN) (hy : sm_lay N = .inr (.inl x.toNatClampNeg)) (hle : N + 1 ≤ Nf)
    (g : sm_Go p l e R s m args below meth c Q D cyI cyB base (sm_rho base tL tG bS) (sm_ml i) N0 (pc + 2, ls, .ref N :: r, N + 1, sm_z I N 0, L, P)) : sm_Go p l e R s m args below meth c Q D cyI cyB base (sm_rho base tL tG bS) (sm_ml i) N0 (pc, ls, .int x :: r, N, I, L, P) := by
  intro H locs lsr hk hl hn T hT X
  obtain ⟨hK, hP, hS, hN⟩ := id hk
  dsimp only at hN hP hn X
  subst hT
  have hsz := sm_hsz X hs hn hP
  have hsl := sm_sl_mono hle
  have hsn := sm_sl_mono hn
  have hzz : sm_sl (N + 1) = sm_sl N + x.toNatClampNeg := by
    show sm_sl N + sm_sz N = _
    unfold sm_sz
    rw [hy]
  have hNN : N < 81 := hN1
  have hb1 : ∀ k : Nat, k < 81 → ∀ n, sm_lay k = .inr (.inl n) → n ≤ 1000 := by
    have : (List.range 81).all (fun k => match sm_lay k with | .inr (.inl n) => decide (n ≤ 1000) | _ => true) = true := by decide +kernel
    intro k hk n hn
    have := List.all_eq_true.mp this k (List.mem_range.mpr hk)
    rw [hn] at this
    exact of_decide_eq_true this
  have hb2 := hb1 N hNN _ hy
  refine va_newaK (atype := .int) (N := x.toNatClampNeg) (h := base + N) (g := F0 m pc lsr (.int x :: r.map (sm_cv (sm_rho base tL tG bS)))) hx hb (hts _ sm_w_arr) rfl hd rfl hx0 rfl (by show x.toNatClampNeg * 4 ≤ _; omega) (by omega) (by omega) hsz (fun H1 cA f1 z1 o1 hAr hNm => ?_) T rfl X
  have hcA : cA = cyI := by
    have h2 : s.vm.findClass ("[" ++ (FieldType.int).toString) = some cyI := (hK.2 0 _ rfl).2
    exact Option.some.inj (hNm.symm.trans h2)
  subst hcA
  have hP1 := sm_P_new (I1 := sm_z I N 0) (L1 := L) (P1 := P) (sm_kept hP hsz o1) (by
    rw [sm_ce_i hy]
    show H1[base + N]? = some (vp_cell _ _)
    rw [vp_cell_i, f1]
    refine congrArg (fun f => some (arrV cA x.toNatClampNeg f)) (funext fun j => ?_)
    simp [sm_z, newarray.typeOf, defaultValue]) (fun b hb => funext fun j => by unfold sm_z; simp [hb]) (fun _ _ => rfl) (fun _ _ => rfl)
  have gg : W p l e R s m args below meth c H1 locs (N + 1 - N0) (sm_sl (N + 1) - sm_sl N0) Q (F0 m (pc + 2) lsr (.ref (sm_rho base tL tG bS N) :: r.map (sm_cv (sm_rho base tL tG bS)))) := g H1 locs lsr ⟨hK, hP1, sm_S_new hS hsz z1 o1, by show N + 1 ≤ 1000; omega⟩ hl (by show N0 ≤ N + 1; omega)
  rw [sm_rho_in (show N < 1000 by omega), show N + 1 - N0 = N - N0 + 1 by omega, show sm_sl (N + 1) - sm_sl N0 = sm_sl N - sm_sl N0 + x.toNatClampNeg by omega] at gg
  exact gg
theorem sm_a_anew (hx : p.tables.exec = Jvm.exec) (hb : c.code = sm_b i) (hown : s.vm.findClass (sm_cn (sm_o i)) = some m.cls) (hts : ∀ w ∈ sm_W, w.before args s = true) (hE : sm_En base tL tG s) (hs : s.heap.size = base + N0) (hNf : Nf - N0 ≤ R.cells ∧ sm_sl Nf - sm_sl N0 ≤ R.slots) {x : Int32} {y z : Nat} (hd : decode (sm_b i) pc = .ok (.anewarray y, 3)) (hf : sm_nw (sm_o i) y = some (0, z)) (hx0 : ¬ x < 0) (hN1 : N < sm_NN) (hy : sm_lay N = .inr (.inr x.toNatClampNeg)) (hle : N + 1 ≤ Nf)
    (g : sm_Go p l e R s m args below meth c Q D cyI cyB base (sm_rho base tL tG bS) (sm_ml i) N0 (pc + 3, ls, .ref N :: r, N + 1, I, L, sm_z P N none)) : sm_Go p l e R s m args below meth c Q D cyI cyB base (sm_rho base tL tG bS) (sm_ml i) N0 (pc, ls, .int x :: r, N, I, L, P) := by
  intro H locs lsr hk hl hn T hT X
  obtain ⟨hK, hP, hS, hN⟩ := id hk
  dsimp only at hN hP hn X
  subst hT
  have hsz := sm_hsz X hs hn hP
  have hsl := sm_sl_mono hle
  have hsn := sm_sl_mono hn
  have hzz : sm_sl (N + 1) = sm_sl N + x.toNatClampNeg := by
    show sm_sl N + sm_sz N = _
    unfold sm_sz
    rw [hy]
  have hNN : N < 81 := hN1
  have hb1 : ∀ k : Nat, k < 81 → ∀ n, sm_lay k = .inr (.inr n) → n ≤ 1000 := by
    have : (List.range 81).all (fun k => match sm_lay k with | .inr (.inr n) => decide (n ≤ 1000) | _ => true) = true := by decide +kernel
    intro k hk n hn
    have := List.all_eq_true.mp this k (List.mem_range.mpr hk)
    rw [hn] at this
    exact of_decide_eq_true this
  have hb2 := hb1 N hNN _ hy
  refine W.anew (C := "FeltByTwin$Birth") (n := x) (g := F0 m pc lsr (.int x :: r.map (sm_cv (sm_rho base tL tG bS)))) hx hb hown (hts _ (sm_nw_in hf).2) (va_AO.use hE.1) rfl hd rfl hx0 (by omega) (by omega) (by omega) (fun cA kA comp f1 f2 f3 f4 => ?_) T rfl X
  have hcA : cA = cyB := by
    obtain ⟨kA', comp', g1, g2, g3, g4⟩ : va_RA s cyB (.object "FeltByTwin$Birth") := (hK.2 1 _ rfl).2
    exact Option.some.inj (f1.symm.trans g4)
  subst hcA
  generalize hH1 : T.heap.push ({ cls := cA, slots := Array.replicate x.toNatClampNeg .null, vm := .none } : Cell) = H1
  have z1 : H1.size = base + N + 1 := by rw [← hH1, Array.size_push, hsz]
  have e1 : H1[base + N]? = some (arrV cA x.toNatClampNeg (fun _ => .null)) := by rw [← hH1, ← hsz, Array.getElem?_push_size, ← arrV_new]
  have o1 : ∀ q : Nat, q < base + N → H1[q]? = T.heap[q]? := fun q hq => by rw [← hH1, Array.getElem?_push, if_neg (by omega)]
  have hP1 := sm_P_new (I1 := I) (L1 := L) (P1 := sm_z P N none) (sm_kept hP hsz o1) (by
    rw [sm_ce_r hy]
    show H1[base + N]? = some (vp_cell _ _)
    rw [vp_cell_q, e1]
    refine congrArg (fun f => some (arrV cA x.toNatClampNeg f)) (funext fun j => ?_)
    simp [sm_z, va_rf]) (fun _ _ => rfl) (fun _ _ => rfl) (fun b hb => funext fun j => by unfold sm_z; simp [hb])
  have gg : W p l e R s m args below meth c H1 locs (N + 1 - N0) (sm_sl (N + 1) - sm_sl N0) Q (F0 m (pc + 3) lsr (.ref (sm_rho base tL tG bS N) :: r.map (sm_cv (sm_rho base tL tG bS)))) := g H1 locs lsr ⟨hK, hP1, sm_S_new hS hsz z1 o1, by show N + 1 ≤ 1000; omega⟩ hl (by show N0 ≤ N + 1; omega)
  rw [sm_rho_in (show N < 1000 by omega), show N + 1 - N0 = N - N0 + 1 by omega, show sm_sl (N + 1) - sm_sl N0 = sm_sl N - sm_sl N0 + x.toNatClampNeg by omega] at gg
  rw [hsz]
  exact gg
theorem sm_cat_sum (ρ : Nat → Nat) {st : List Value} (h : st.length ≤ 4) : ((st.map (sm_cv ρ)).map fun v => v.category).sum ≤ 8 := by
  have key : ∀ l : List Value, ((l.map (sm_cv ρ)).map fun v => v.category).sum ≤ 2 * l.length := by
    intro l
    induction l with
    | nil => simp
    | cons v t ih =>
      rw [List.map_cons, List.map_cons, List.sum_cons, List.length_cons, sm_cv_cat]
      have : v.category ≤ 2 := by rcases lv_cat v with q | q <;> omega
      omega
  have := key st
  omega
theorem sm_a_copy (hx : p.tables.exec = Jvm.exec) (hb : c.code = sm_b i) (hml : c.maxLocals = sm_ml i) (hown : s.vm.findClass (sm_cn (sm_o i)) = some m.cls) (hts : ∀ w ∈ sm_W, w.before args s = true) (hR : 1 ≤ R.frames ∧ 64 ≤ R.locals) {x z a a0 n0 n1 : Nat} {n dp sp : Int32} (hd : decode (sm_b i) pc = .ok (.invokestatic x, 3)) (hf : sm_ac (sm_o i) x = some z) (ha : a < N) (ha0 : a0 < N) (hr : r.length ≤ 4) (hy0 : sm_lay a0 = .inr (.inl n0)) (hy : sm_lay a = .inr (.inl n1)) (h1 : ¬ sp < 0) (h2 : ¬ dp < 0) (h3 : ¬ n < 0) (h4 : sp.toNatClampNeg + n.toNatClampNeg ≤ n0) (h5 : dp.toNatClampNeg + n.toNatClampNeg ≤ n1)
    (g : sm_Go p l e R s m args below meth c Q D cyI cyB base (sm_rho base tL tG bS) (sm_ml i) N0 (pc + 3, ls, r, N, sm_row I a (va_cpy (I a0) (I a) sp.toNatClampNeg dp.toNatClampNeg n.toNatClampNeg), L, P)) : sm_Go p l e R s m args below meth c Q D cyI cyB base (sm_rho base tL tG bS) (sm_ml i) N0 (pc, ls, .int n :: .int dp :: .ref a :: .int sp :: .ref a0 :: r, N, I, L, P) := by
  intro H locs lsr hk hl hn
  obtain ⟨hK, hP, hS, hN⟩ := id hk
  dsimp only at hN hP
  have hw := sm_cw_get (cyI := cyI) (cyB := cyB) (base := base) (ρ := sm_rho base tL tG bS) (I := I) (L := L) (P := P) ha
  rw [sm_ce_i hy] at hw
  have hw0 := sm_cw_get (cyI := cyI) (cyB := cyB) (base := base) (ρ := sm_rho base tL tG bS) (I := I) (L := L) (P := P) ha0
  rw [sm_ce_i hy0] at hw0
  have hρ : sm_rho base tL tG bS a = base + a := sm_rho_in (show a < 1000 by omega)
  have hρ0 : sm_rho base tL tG bS a0 = base + a0 := sm_rho_in (show a0 < 1000 by omega)
  show W p l e R s m args below meth c H locs (N - N0) (sm_sl N - sm_sl N0) Q (F0 m pc lsr (.int n :: .int dp :: .ref (sm_rho base tL tG bS a) :: .int sp :: .ref (sm_rho base tL tG bS a0) :: r.map (sm_cv (sm_rho base tL tG bS))))
  rw [hρ, hρ0]
  have hcs := sm_cat_sum (sm_rho base tL tG bS) hr
  refine va_copyi (ty := .int) hx hb (by rw [hml]; exact hl.1.symm) hown (hts _ (sm_ac_in hf)) (hts _ sm_w_an) (hts _ sm_w_as) (hts _ sm_w_sy) hK hP (sm_D cyI cyB base (sm_rho base tL tG bS) N I L P) hS a0 a 0 0 hw0 hw rfl rfl rfl h1 h2 h3 h4 h5 (fun _ _ => rfl) hR.1 (by
    have : nativeFrameWords "java/lang/System" "arraycopy" 5 = 7 := by decide
    rw [this]; omega) hd fun H1 locs1 hP1 _ hS1 => ?_
  rw [sm_cw_set (I1 := sm_row I a (va_cpy (I a0) (I a) sp.toNatClampNeg dp.toNatClampNeg n.toNatClampNeg)) (L1 := L) (P1 := P) ha (by
    rw [sm_ce_i hy]
    refine congrArg (fun q => Sum.inl (cyI, n1, Sum.inl q)) (funext fun j => ?_)
    simp [sm_row]) (fun b hb => funext fun j => by unfold sm_row; simp [hb]) (fun _ _ => rfl) (fun _ _ => rfl)] at hP1
  exact g H1 locs1 lsr ⟨hK, hP1, hS1, hN⟩ hl hn
/-- behind a call -/
theorem sm_back {ρ : Nat → Nat} {H : Heap} {locs : List Loc} {cells slots mc ms : Nat} {lsr : Array Slot} {st0 rest : List Value} {rs : sm_Rs} {a : Array Value} (hr : va_Run p l e R s m args below meth c H locs cells slots mc ms (F0 m pc lsr st0) rest (sm_Qc D cyI cyB base ρ rs a) (fun q => base ≤ q)) (hS : va_S (fun q => base ≤ q) s.heap H locs)
    (kk : ∀ (H1 : Heap) (locs1 : List Loc), va_P D vwCl (sm_cw cyI cyB base ρ rs.2.1 rs.2.2.1 rs.2.2.2.1 rs.2.2.2.2) H1 → va_S (fun q => base ≤ q) s.heap H1 locs1 → W p l e R s m args below meth c H1 locs1 (cells + mc) (slots + ms) Q (F0 m (pc + 3) lsr ((rs.1.map (sm_cv ρ)).toList ++ rest))) : W p l e R s m args below meth c H locs cells slots Q (F0 m pc lsr st0) := by
  intro T hT X
  obtain ⟨v, st₀, t, T', Lc, h0, X', hL, e1, e2, ⟨⟨hv, hP⟩, hz, hk⟩, st⟩ := hr T hT X
  have hv := Outcome.returned.inj hv
  subst hv
  rw [h0] at hz hk
  obtain ⟨t2, a1, b1⟩ := kk T'.heap (locs ++ Lc) (by rw [e1]; exact hP)
    ⟨Nat.le_trans hS.1 (by rw [e1]; exact hz), fun q h1 h2 => by rw [e1, hk q (Nat.lt_of_lt_of_le h1 hS.1) h2]; exact hS.2.1 q h1 h2, fun q hq => by
      rcases List.mem_append.mp hq with h | h
      · exact hS.2.2 q h
      · exact hL q h⟩ T' rfl X'
  exact ⟨t2, st t2 a1, b1⟩
end SMT
end
section
section SMC
variable {p : Program} {l : Launch} {e : Env} {R : Room} {s : State} {m : MethodId} {args : Array Value} {below : List Frame} {meth : Method} {c : Code} {Q : State → Prop} {D : va_G} {cyI cyB : ClassId} {base tL tG bS N0 i pc N Nf d : Nat} {ls : List (Option Value)} {st : List Value} {I : sm_Im} {L : sm_Lm} {P : sm_Pm} {C : sm_Cf}
/-- what is known of the methods that are called -/
def sm_CM (l : Launch) (D : va_G) (cyI cyB : ClassId) (base tL tG bS d : Nat) (C : sm_Cf) : Prop := ∀ (j : Nat) (as : List Value) (N : Nat) (I : sm_Im) (L : sm_Lm) (P : sm_Pm) (r : sm_Rs), j < 216 → C j as N I L P = some r → N ≤ 1000 → N ≤ r.2.1 ∧ r.2.1 ≤ 1000 ∧
  Met l (sm_y j) (sm_ws j) (sm_rm d N r.2.1) (sm_Pc D cyI cyB base (sm_rho base tL tG bS) tL tG as N I L P) (sm_Qc D cyI cyB base (sm_rho base tL tG bS) r) (r.2.1 - N) (sm_sl r.2.1 - sm_sl N) (fun q => base ≤ q)
theorem sm_iv_eq {j n : Nat} {t : sm_Rs ⊕ sm_St} (h : sm_iv C j n pc ls st N I L P = some t) : ∃ r : sm_Rs, n ≤ st.length ∧ (st.drop n).length ≤ 4 ∧ C j (st.take n).reverse N I L P = some r ∧ Sum.inr (pc + 3, ls, r.1.toList ++ st.drop n, r.2.1, r.2.2.1, r.2.2.2.1, r.2.2.2.2) = t := by
  obtain ⟨h1, h2⟩ := sm_if h
  cases hc : C j (st.take n).reverse N I L P with
  | none => rw [hc] at h2; cases h2
  | some q =>
    obtain ⟨q1, q2, q3, q4, q5⟩ := q
    rw [hc] at h2
    exact ⟨(q1, q2, q3, q4, q5), h1.1, h1.2, rfl, sm_nx_eq h2⟩
theorem sm_pre {H : Heap} {locs : List Loc} {as : List Value} (hE : sm_En base tL tG s) (hk : sm_Lk D cyI cyB base (sm_rho base tL tG bS) s H locs N I L P) (hsz : H.size = base + N) : ∀ U : State, U.heap = H → s.WarmedH U.vm → sm_Pc D cyI cyB base (sm_rho base tL tG bS) tL tG as N I L P (as.map (sm_cv (sm_rho base tL tG bS))).toArray U := by
  intro U hU hW
  obtain ⟨hK, hP, hS, hN⟩ := hk
  exact ⟨rfl, by rw [hU]; exact hsz, by rw [hU]; exact hP, va_K.moved hW.alike hK, hE.warm hW hS hU, hN⟩
theorem sm_split {n : Nat} (ρ : Nat → Nat) (h : n ≤ st.length) : st.map (sm_cv ρ) = ((st.take n).reverse.map (sm_cv ρ)).reverse ++ (st.drop n).map (sm_cv ρ) := by
  rw [← List.map_reverse, List.reverse_reverse, ← List.map_append, List.take_append_drop]
theorem sm_toL (ρ : Nat → Nat) (o : Option Value) (st : List Value) : (o.map (sm_cv ρ)).toList ++ st.map (sm_cv ρ) = (o.toList ++ st).map (sm_cv ρ) := by cases o <;> rfl
/-- a call, whatever its kind: 'run' is the row of the kit -/
theorem sm_a_call (hE : sm_En base tL tG s) (hs : s.heap.size = base + N0) (hNf : Nf - N0 ≤ R.cells ∧ sm_sl Nf - sm_sl N0 ≤ R.slots) (hC : sm_CM l D cyI cyB base tL tG bS d C) {j n : Nat} (hj : j < 216) {t : sm_St} (h : sm_iv C j n pc ls st N I L P = some (.inr t)) (hle : t.2.2.2.1 ≤ Nf) (g : sm_Go p l e R s m args below meth c Q D cyI cyB base (sm_rho base tL tG bS) (sm_ml i) N0 t)
    (run : ∀ (H : Heap) (locs : List Loc) (lsr : Array Slot) (cells slots : Nat) (rs : sm_Rs) (rest : List Value), H.size = base + N → sm_Lk D cyI cyB base (sm_rho base tL tG bS) s H locs N I L P → lsr.size = sm_ml i → n ≤ st.length → (rest.map fun v => v.category).sum ≤ 8 → st.map (sm_cv (sm_rho base tL tG bS)) = ((st.take n).reverse.map (sm_cv (sm_rho base tL tG bS))).reverse ++ rest →
      Met l (sm_y j) (sm_ws j) (sm_rm d N rs.2.1) (sm_Pc D cyI cyB base (sm_rho base tL tG bS) tL tG (st.take n).reverse N I L P) (sm_Qc D cyI cyB base (sm_rho base tL tG bS) rs) (rs.2.1 - N) (sm_sl rs.2.1 - sm_sl N) (fun q => base ≤ q) → (cells + (rs.2.1 - N) ≤ R.cells ∧ slots + (sm_sl rs.2.1 - sm_sl N) ≤ R.slots) →
      va_Run p l e R s m args below meth c H locs cells slots (rs.2.1 - N) (sm_sl rs.2.1 - sm_sl N) (F0 m pc lsr (st.map (sm_cv (sm_rho base tL tG bS)))) rest (sm_Qc D cyI cyB base (sm_rho base tL tG bS) rs ((st.take n).reverse.map (sm_cv (sm_rho base tL tG bS))).toArray) (fun q => base ≤ q)) :
    sm_Go p l e R s m args below meth c Q D cyI cyB base (sm_rho base tL tG bS) (sm_ml i) N0 (pc, ls, st, N, I, L, P) := by
  obtain ⟨rs, h1, h2, h3, h4⟩ := sm_iv_eq h
  have h4 := Sum.inr.inj h4
  subst h4
  intro H locs lsr hk hl hn T hT X
  have hk0 := hk
  obtain ⟨hK, hP, hS, hN⟩ := id hk
  dsimp only at hN hP hn X hle hk
  subst hT
  have hsz := sm_hsz X hs hn hP
  obtain ⟨c1, c2, hM⟩ := hC j _ N I L P rs hj h3 hN
  have hsl := sm_sl_mono hle
  have hsn := sm_sl_mono hn
  have hsr := sm_sl_mono c1
  refine sm_back (run T.heap locs lsr (N - N0) (sm_sl N - sm_sl N0) rs ((st.drop n).map (sm_cv (sm_rho base tL tG bS))) hsz hk hl.1 h1 (sm_cat_sum _ h2) (sm_split _ h1) hM ⟨by omega, by omega⟩) hS (fun H1 locs1 hP1 hS1 => ?_) T rfl X
  have gg : W p l e R s m args below meth c H1 locs1 (rs.2.1 - N0) (sm_sl rs.2.1 - sm_sl N0) Q (F0 m (pc + 3) lsr ((rs.1.toList ++ st.drop n).map (sm_cv (sm_rho base tL tG bS)))) := g H1 locs1 lsr ⟨hK, hP1, hS1, c2⟩ hl (by show N0 ≤ rs.2.1; omega)
  rw [sm_toL, show N - N0 + (rs.2.1 - N) = rs.2.1 - N0 by omega, show sm_sl N - sm_sl N0 + (sm_sl rs.2.1 - sm_sl N) = sm_sl rs.2.1 - sm_sl N0 by omega]
  exact gg
theorem sm_a_stat (hx : p.tables.exec = Jvm.exec) (hb : c.code = sm_b i) (hml : c.maxLocals = sm_ml i) (hown : s.vm.findClass (sm_cn (sm_o i)) = some m.cls) (hts : ∀ w ∈ sm_W, w.before args s = true) (hE : sm_En base tL tG s) (hs : s.heap.size = base + N0) (hR : d + 1 ≤ R.frames ∧ 64 * (d + 1) ≤ R.locals) (hNf : Nf - N0 ≤ R.cells ∧ sm_sl Nf - sm_sl N0 ≤ R.slots) (hC : sm_CM l D cyI cyB base tL tG bS d C) {x j z k : Nat} (hd : decode (sm_b i) pc = .ok (.invokestatic x, 3)) (hf : sm_cal (sm_o i) x = some (j, z, k)) (hkd : sm_kd j = 0) (hmj : sm_ml j ≤ 45) {t : sm_St} (h : sm_iv C j (sm_np j) pc ls st N I L P = some (.inr t)) (hle : t.2.2.2.1 ≤ Nf) (g : sm_Go p l e R s m args below meth c Q D cyI cyB base (sm_rho base tL tG bS) (sm_ml i) N0 t) :
    sm_Go p l e R s m args below meth c Q D cyI cyB base (sm_rho base tL tG bS) (sm_ml i) N0 (pc, ls, st, N, I, L, P) := by
  obtain ⟨hj, hlink⟩ := sm_cal_ok hf
  obtain ⟨f1, f2, -, -, f5, f6, f7, f8, -⟩ := sm_m_facts hj
  refine sm_a_call hE hs hNf hC hj h hle g fun H locs lsr cells slots rs rest hsz hk hls hlen hcat hstk hM hroom => ?_
  have hRm : (sm_rm d N rs.2.1).frames + 1 ≤ R.frames ∧ 8 + (sm_ml j + 11) + (sm_rm d N rs.2.1).locals ≤ R.locals := ⟨hR.1, by show 8 + (sm_ml j + 11) + 64 * d ≤ R.locals; omega⟩
  have hAs : ((st.take (sm_np j)).reverse.map (sm_cv (sm_rho base tL tG bS))).length = sm_np j := by rw [List.length_map, List.length_reverse, List.length_take]; omega
  rcases hlink with ⟨-, hl1⟩ | ⟨-, hl1⟩
  · exact va_runS (S := ⟨hx, hb, hml, hown, hts⟩) hM ⟨callB_of (sm_np j) hts (sm_good hj) rfl rfl rfl (hts _ f5) (hts _ hl1) f8 hRm, hts _ (f2 hkd)⟩ ⟨sm_Pc.blind, sm_pre hE hk hsz⟩ rfl hAs hls hstk (lv_room hcat) hd hroom
  · exact va_runSN (S := ⟨hx, hb, hml, hown, hts⟩) hM ⟨va_cnB (sm_np j) hts (sm_good hj) rfl rfl rfl (hE.2.1 _ hl1) (hts _ f5) f8 hRm, hts _ (f2 hkd), trivial⟩ ⟨sm_Pc.blind, sm_pre hE hk hsz⟩ rfl hAs hls hstk (lv_room hcat) hd hroom
theorem sm_isR_eq {n : Nat} {c0 : Nat} (h : sm_isR N c0 st[n]? = true) : ∃ b, st[n]? = some (.ref b) ∧ b < N ∧ sm_lay b = .inl c0 := by
  unfold sm_isR at h
  split at h
  · rename_i a ha
    rw [Bool.and_eq_true, decide_eq_true_eq, decide_eq_true_eq] at h
    exact ⟨a, by assumption, h.1, h.2⟩
  · cases h
theorem sm_take_recv {n b : Nat} (h : st[n]? = some (.ref b)) : (st.take (n + 1)).reverse = .ref b :: (st.take n).reverse := by
  rw [List.take_add_one, h]
  simp
theorem sm_a_virt (hx : p.tables.exec = Jvm.exec) (hb : c.code = sm_b i) (hml : c.maxLocals = sm_ml i) (hown : s.vm.findClass (sm_cn (sm_o i)) = some m.cls) (hts : ∀ w ∈ sm_W, w.before args s = true) (hE : sm_En base tL tG s) (hs : s.heap.size = base + N0) (hR : d + 1 ≤ R.frames ∧ 64 * (d + 1) ≤ R.locals) (hNf : Nf - N0 ≤ R.cells ∧ sm_sl Nf - sm_sl N0 ≤ R.slots) (hC : sm_CM l D cyI cyB base tL tG bS d C) {x j z : Nat} (hd : decode (sm_b i) pc = .ok (.invokevirtual x, 3)) (hf : sm_cal (sm_o i) x = some (j, z, 0)) (hkd : sm_kd j = 1) (hr : sm_isR N (sm_o j) st[sm_np j]? = true) (hmj : sm_ml j ≤ 45) (hoj : sm_o j < 12) {t : sm_St} (h : sm_iv C j (sm_np j + 1) pc ls st N I L P = some (.inr t)) (hle : t.2.2.2.1 ≤ Nf) (g : sm_Go p l e R s m args below meth c Q D cyI cyB base (sm_rho base tL tG bS) (sm_ml i) N0 t) :
    sm_Go p l e R s m args below meth c Q D cyI cyB base (sm_rho base tL tG bS) (sm_ml i) N0 (pc, ls, st, N, I, L, P) := by
  obtain ⟨hj, hlink⟩ := sm_cal_ok hf
  obtain ⟨f1, -, f3, f4, f5, f6, f7, f8, -⟩ := sm_m_facts hj
  obtain ⟨b, hb1, hb2, hb3⟩ := sm_isR_eq hr
  have hne : ¬ sm_kd j = 0 := by omega
  refine sm_a_call hE hs hNf hC hj h hle g fun H locs lsr cells slots rs rest hsz hk hls hlen hcat hstk hM hroom => ?_
  have hRm : (sm_rm d N rs.2.1).frames + 1 ≤ R.frames ∧ 8 + (sm_ml j + 11) + (sm_rm d N rs.2.1).locals ≤ R.locals := ⟨hR.1, by show 8 + (sm_ml j + 11) + 64 * d ≤ R.locals; omega⟩
  have hAs : ((st.take (sm_np j)).reverse.map (sm_cv (sm_rho base tL tG bS))).length = sm_np j := by rw [List.length_map, List.length_reverse, List.length_take]; omega
  obtain ⟨hK, hP, hS, hN⟩ := id hk
  have hρ : sm_rho base tL tG bS b = base + b := sm_rho_in (Nat.lt_of_lt_of_le hb2 hN)
  have hw := sm_cw_get (cyI := cyI) (cyB := cyB) (base := base) (ρ := sm_rho base tL tG bS) (I := I) (L := L) (P := P) hb2
  rw [sm_ce_o hb3] at hw
  obtain ⟨q, hq⟩ := sm_vw hoj
  have hq5 := (sm_cls_ok hq).2.2.2.2.1
  have hpre := sm_pre (as := (st.take (sm_np j + 1)).reverse) hE hk hsz
  rw [sm_take_recv hb1] at hM hpre hstk ⊢
  have e0 : List.map (sm_cv (sm_rho base tL tG bS)) (Value.ref b :: (st.take (sm_np j)).reverse) = .ref (base + b) :: (st.take (sm_np j)).reverse.map (sm_cv (sm_rho base tL tG bS)) := by rw [List.map_cons]; exact congrArg (fun q => Value.ref q :: _) hρ
  rw [e0] at hpre hstk ⊢
  rcases hlink with ⟨-, hl1⟩ | ⟨z1, -⟩
  · refine va_runV (S := ⟨hx, hb, hml, hown, hts⟩) (C := (sm_y j).cls) hM ⟨callB_of (sm_np j) hts (sm_good hj) rfl rfl rfl (hts _ f5) (hts _ hl1) f8 hRm, hts _ (f3 hne), hts _ (f4 hkd)⟩ ⟨sm_Pc.blind, ?_, hpre⟩ rfl hAs hls (by show st.map _ = _; rw [hstk, List.reverse_cons, List.append_assoc]; rfl) (lv_room hcat) hd hroom
    rw [f6, ← hq5]
    exact va_recv hK hP hq hw
  · exact absurd rfl z1
theorem sm_a_spec (hx : p.tables.exec = Jvm.exec) (hb : c.code = sm_b i) (hml : c.maxLocals = sm_ml i) (hown : s.vm.findClass (sm_cn (sm_o i)) = some m.cls) (hts : ∀ w ∈ sm_W, w.before args s = true) (hE : sm_En base tL tG s) (hs : s.heap.size = base + N0) (hR : d + 1 ≤ R.frames ∧ 64 * (d + 1) ≤ R.locals) (hNf : Nf - N0 ≤ R.cells ∧ sm_sl Nf - sm_sl N0 ≤ R.slots) (hC : sm_CM l D cyI cyB base tL tG bS d C) {x j z k : Nat} (hd : decode (sm_b i) pc = .ok (.invokespecial x, 3)) (hf : sm_cal (sm_o i) x = some (j, z, k)) (hkd : sm_kd j = 2) (hr : sm_isR N (sm_o j) st[sm_np j]? = true) (hmj : sm_ml j ≤ 45) {t : sm_St} (h : sm_iv C j (sm_np j + 1) pc ls st N I L P = some (.inr t)) (hle : t.2.2.2.1 ≤ Nf) (g : sm_Go p l e R s m args below meth c Q D cyI cyB base (sm_rho base tL tG bS) (sm_ml i) N0 t) :
    sm_Go p l e R s m args below meth c Q D cyI cyB base (sm_rho base tL tG bS) (sm_ml i) N0 (pc, ls, st, N, I, L, P) := by
  obtain ⟨hj, hlink⟩ := sm_cal_ok hf
  obtain ⟨f1, -, f3, -, f5, f6, f7, f8, f9⟩ := sm_m_facts hj
  obtain ⟨b, hb1, hb2, hb3⟩ := sm_isR_eq hr
  have hne : ¬ sm_kd j = 0 := by omega
  obtain ⟨f10, f11⟩ := f9 hkd
  refine sm_a_call hE hs hNf hC hj h hle g fun H locs lsr cells slots rs rest hsz hk hls hlen hcat hstk hM hroom => ?_
  have hRm : (sm_rm d N rs.2.1).frames + 1 ≤ R.frames ∧ 8 + (sm_ml j + 11) + (sm_rm d N rs.2.1).locals ≤ R.locals := ⟨hR.1, by show 8 + (sm_ml j + 11) + 64 * d ≤ R.locals; omega⟩
  have hAs : ((st.take (sm_np j)).reverse.map (sm_cv (sm_rho base tL tG bS))).length = sm_np j := by rw [List.length_map, List.length_reverse, List.length_take]; omega
  have hws : sm_ws j = Cond.code (sm_y j) (sm_b j) (sm_ml j) none :: sm_W := by unfold sm_ws; rw [f11]
  have hpre := sm_pre (as := (st.take (sm_np j + 1)).reverse) hE hk hsz
  rw [sm_take_recv hb1] at hM hpre hstk ⊢
  have e0 : List.map (sm_cv (sm_rho base tL tG bS)) (Value.ref b :: (st.take (sm_np j)).reverse) = .ref (sm_rho base tL tG bS b) :: (st.take (sm_np j)).reverse.map (sm_cv (sm_rho base tL tG bS)) := by rw [List.map_cons]; rfl
  rw [e0] at hpre hstk ⊢
  rcases hlink with ⟨-, hl1⟩ | ⟨-, hl1⟩
  · exact va_runI (S := ⟨hx, hb, hml, hown, hts⟩) hM ⟨callB_of (sm_np j) hts (sm_good hj) hws rfl rfl (hts _ f5) (hts _ hl1) f8 hRm, f10, hts _ (f3 hne)⟩ ⟨sm_Pc.blind, hpre⟩ rfl hAs hls (by show st.map _ = _; rw [hstk, List.reverse_cons, List.append_assoc]; rfl) (lv_room hcat) hd hroom
  · exact va_runIN (S := ⟨hx, hb, hml, hown, hts⟩) hM ⟨va_cnB (sm_np j) hts (sm_good hj) hws rfl rfl (hE.2.1 _ hl1) (hts _ f5) f8 hRm, f10, hts _ (f3 hne)⟩ ⟨sm_Pc.blind, hpre⟩ rfl hAs hls (by show st.map _ = _; rw [hstk, List.reverse_cons, List.append_assoc]; rfl) (lv_room hcat) hd hroom
end SMC
end
section
section SMM
variable {p : Program} {l : Launch} {e : Env} {R : Room} {s : State} {m : MethodId} {args : Array Value} {below : List Frame} {meth : Method} {c : Code} {Q : State → Prop} {D : va_G} {cyI cyB : ClassId} {base tL tG bS N0 i Nf d : Nat} {C : sm_Cf} {X : sm_Xs}
set_option maxRecDepth 100000 in
theorem sm_ml_le : (List.range 216).all (fun j => decide (sm_ml j ≤ 45) && (sm_kd j != 1 || decide (sm_o j < 12))) = true := by decide +kernel
theorem sm_ml_j {j : Nat} (hj : j < 216) : sm_ml j ≤ 45 ∧ (sm_kd j = 1 → sm_o j < 12) := by
  have := List.all_eq_true.mp sm_ml_le j (List.mem_range.mpr hj)
  rw [Bool.and_eq_true, decide_eq_true_eq, Bool.or_eq_true, decide_eq_true_eq] at this
  refine ⟨this.1, fun q => this.2.resolve_left (fun z => ?_)⟩
  rw [q] at z
  cases z
theorem sm_no {α : Type} {q : α} {A : Prop} (h : (none : Option α) = some q) : A := by cases h
theorem sm_no2 {α β : Type} {a : α} {b : β} {A : Prop} (h : (some (Sum.inl a) : Option (α ⊕ β)) = some (Sum.inr b)) : A := by cases h
set_option maxHeartbeats 4000000 in
theorem sm_step (hx : p.tables.exec = Jvm.exec) (hb : c.code = sm_b i) (hml : c.maxLocals = sm_ml i) (hown : s.vm.findClass (sm_cn (sm_o i)) = some m.cls) (hts : ∀ w ∈ sm_W, w.before args s = true) (hE : sm_En base tL tG s) (hX : ∀ q, X = some q → va_X bS q.1 q.2 s s.heap ∧ bS < base) (hin : sm_kd i = 2 → meth.name = "<init>") (hs : s.heap.size = base + N0) (hR : d + 1 ≤ R.frames ∧ 64 * (d + 1) ≤ R.locals) (hNf : Nf - N0 ≤ R.cells ∧ sm_sl Nf - sm_sl N0 ≤ R.slots) (hC : sm_CM l D cyI cyB base tL tG bS d C)
    {t t1 : sm_St} (h : sm_S C X i t = some (.inr t1)) (hle : t1.2.2.2.1 ≤ Nf) (g : sm_Go p l e R s m args below meth c Q D cyI cyB base (sm_rho base tL tG bS) (sm_ml i) N0 t1) : sm_Go p l e R s m args below meth c Q D cyI cyB base (sm_rho base tL tG bS) (sm_ml i) N0 t := by
  obtain ⟨pc, ls, st, N, I, L, P⟩ := t
  unfold sm_S at h
  dsimp only at h
  cases hd : decode (sm_b i) pc with
  | error _ => rw [hd] at h; cases h
  | ok q =>
  obtain ⟨ins, len⟩ := q
  rw [hd] at h
  have h9 := sm_if h
  clear h
  obtain ⟨hlen, h⟩ := h9
  dsimp only at h hlen
  have e1 : ∀ n, n ≠ 0 → sm_len ins = n → n = len := fun n h0 hn => by rcases hlen with q | q <;> omega
  cases ins with
  | iconst n =>
    obtain rfl := e1 1 (by decide) rfl
    obtain rfl := Sum.inr.inj (sm_nx_eq h)
    exact fun H locs lsr hk hl hn => lv_iconst hx hb hd rfl (g H locs lsr hk hl hn)
  | bipush n =>
    obtain rfl := e1 2 (by decide) rfl
    obtain rfl := Sum.inr.inj (sm_nx_eq h)
    exact fun H locs lsr hk hl hn => lv_bipush hx hb hd rfl (g H locs lsr hk hl hn)
  | sipush n =>
    obtain rfl := e1 3 (by decide) rfl
    obtain rfl := Sum.inr.inj (sm_nx_eq h)
    exact fun H locs lsr hk hl hn => lv_sipush hx hb hd rfl (g H locs lsr hk hl hn)
  | lconst n =>
    obtain rfl := e1 1 (by decide) rfl
    obtain rfl := Sum.inr.inj (sm_nx_eq h)
    exact fun H locs lsr hk hl hn => lv_lconst hx hb hd rfl (g H locs lsr hk hl hn)
  | aconst_null =>
    obtain rfl := e1 1 (by decide) rfl
    obtain rfl := Sum.inr.inj (sm_nx_eq h)
    exact fun H locs lsr hk hl hn => lv_null hx hb hd (g H locs lsr hk hl hn)
  | ldc x =>
    obtain rfl := e1 2 (by decide) rfl
    cases hq : sm_ki (sm_o i) x with
    | none => unfold sm_X at h; dsimp only at h; rw [hq] at h; cases h
    | some q =>
      obtain ⟨v, z⟩ := q
      unfold sm_X at h; dsimp only at h; rw [hq] at h
      obtain rfl := Sum.inr.inj (sm_nx_eq h)
      exact fun H locs lsr hk hl hn => lv_ldc hx hb hown (hts _ (sm_ki_in hq)) hd (g H locs lsr hk hl hn)
  | ldc_w x =>
    obtain rfl := e1 3 (by decide) rfl
    cases hq : sm_ki (sm_o i) x with
    | none => unfold sm_X at h; dsimp only at h; rw [hq] at h; cases h
    | some q =>
      obtain ⟨v, z⟩ := q
      unfold sm_X at h; dsimp only at h; rw [hq] at h
      obtain rfl := Sum.inr.inj (sm_nx_eq h)
      exact fun H locs lsr hk hl hn => lv_ldcw hx hb hown (hts _ (sm_ki_in hq)) hd (g H locs lsr hk hl hn)
  | ldc2_w x =>
    obtain rfl := e1 3 (by decide) rfl
    cases hq : sm_kl (sm_o i) x with
    | none => unfold sm_X at h; dsimp only at h; rw [hq] at h; cases h
    | some q =>
      obtain ⟨v, z⟩ := q
      unfold sm_X at h; dsimp only at h; rw [hq] at h
      obtain rfl := Sum.inr.inj (sm_nx_eq h)
      exact fun H locs lsr hk hl hn => lv_ldc2 hx hb hown (hts _ (sm_kl_in hq)) hd (g H locs lsr hk hl hn)
  | iload_n n =>
    obtain rfl := e1 1 (by decide) rfl
    obtain ⟨x, hv, h⟩ := sm_ldi_eq h
    obtain rfl := Sum.inr.inj (sm_nx_eq h)
    exact fun H locs lsr hk hl hn => lv_iload_n hx hb hd rfl (hl.2.2 n _ hv) (g H locs lsr hk hl hn)
  | iload n =>
    obtain rfl := e1 2 (by decide) rfl
    obtain ⟨x, hv, h⟩ := sm_ldi_eq h
    obtain rfl := Sum.inr.inj (sm_nx_eq h)
    exact fun H locs lsr hk hl hn => lv_iload hx hb hd (hl.2.2 n _ hv) (g H locs lsr hk hl hn)
  | lload_n n =>
    obtain rfl := e1 1 (by decide) rfl
    obtain ⟨x, hv, h⟩ := sm_ldl_eq h
    obtain rfl := Sum.inr.inj (sm_nx_eq h)
    exact fun H locs lsr hk hl hn => lv_lload_n hx hb hd rfl (hl.2.2 n _ hv) (g H locs lsr hk hl hn)
  | lload n =>
    obtain rfl := e1 2 (by decide) rfl
    obtain ⟨x, hv, h⟩ := sm_ldl_eq h
    obtain rfl := Sum.inr.inj (sm_nx_eq h)
    exact fun H locs lsr hk hl hn => lv_lload hx hb hd (hl.2.2 n _ hv) (g H locs lsr hk hl hn)
  | aload_n n =>
    obtain rfl := e1 1 (by decide) rfl
    unfold sm_X at h
    dsimp only at h
    rcases sm_lda_eq h with ⟨x, hv, h⟩ | ⟨hv, h⟩
    · obtain rfl := Sum.inr.inj (sm_nx_eq h)
      exact fun H locs lsr hk hl hn => lv_aload_n hx hb hd rfl (hl.2.2 n _ hv) (g H locs lsr hk hl hn)
    · obtain rfl := Sum.inr.inj (sm_nx_eq h)
      exact fun H locs lsr hk hl hn => lv_aload_nN hx hb hd rfl (hl.2.2 n _ hv) (g H locs lsr hk hl hn)
  | aload n =>
    obtain rfl := e1 2 (by decide) rfl
    unfold sm_X at h
    dsimp only at h
    rcases sm_lda_eq h with ⟨x, hv, h⟩ | ⟨hv, h⟩
    · obtain rfl := Sum.inr.inj (sm_nx_eq h)
      exact fun H locs lsr hk hl hn => lv_aload hx hb hd (hl.2.2 n _ hv) (g H locs lsr hk hl hn)
    · obtain rfl := Sum.inr.inj (sm_nx_eq h)
      exact fun H locs lsr hk hl hn => lv_aloadN hx hb hd (hl.2.2 n _ hv) (g H locs lsr hk hl hn)
  | istore_n n =>
    obtain rfl := e1 1 (by decide) rfl
    obtain ⟨x, r, rfl, h⟩ := sm_p1_eq h
    obtain ⟨hn1, h⟩ := sm_if h
    obtain rfl := Sum.inr.inj (sm_nx_eq h)
    exact fun H locs lsr hk hl hn => lv_istore_n hx hb hd rfl (sm_lh_has hl) hn1 rfl (fun ls1 hl1 => g H locs ls1 hk (sm_lh_1 (v := .int x) hl1) hn)
  | istore n =>
    obtain rfl := e1 2 (by decide) rfl
    obtain ⟨x, r, rfl, h⟩ := sm_p1_eq h
    obtain ⟨hn1, h⟩ := sm_if h
    obtain rfl := Sum.inr.inj (sm_nx_eq h)
    exact fun H locs lsr hk hl hn => lv_istore hx hb hd (sm_lh_has hl) hn1 rfl (fun ls1 hl1 => g H locs ls1 hk (sm_lh_1 (v := .int x) hl1) hn)
  | lstore_n n =>
    obtain rfl := e1 1 (by decide) rfl
    obtain ⟨x, r, rfl, h⟩ := sm_q1_eq h
    obtain ⟨hn1, h⟩ := sm_if h
    obtain rfl := Sum.inr.inj (sm_nx_eq h)
    exact fun H locs lsr hk hl hn => lv_lstore_n hx hb hd rfl (sm_lh_has hl) hn1 rfl (fun ls1 hl1 => g H locs ls1 hk (sm_lh_2 (v := .long x) hl1) hn)
  | lstore n =>
    obtain rfl := e1 2 (by decide) rfl
    obtain ⟨x, r, rfl, h⟩ := sm_q1_eq h
    obtain ⟨hn1, h⟩ := sm_if h
    obtain rfl := Sum.inr.inj (sm_nx_eq h)
    exact fun H locs lsr hk hl hn => lv_lstore hx hb hd (sm_lh_has hl) hn1 rfl (fun ls1 hl1 => g H locs ls1 hk (sm_lh_2 (v := .long x) hl1) hn)
  | astore_n n =>
    obtain rfl := e1 1 (by decide) rfl
    unfold sm_X at h
    dsimp only at h
    rcases sm_pa_eq h with ⟨x, r, rfl, h⟩ | ⟨r, rfl, h⟩
    · obtain ⟨hn1, h⟩ := sm_if h
      obtain rfl := Sum.inr.inj (sm_nx_eq h)
      exact fun H locs lsr hk hl hn => lv_astore_n hx hb hd rfl (sm_lh_has hl) hn1 rfl (fun ls1 hl1 => g H locs ls1 hk (sm_lh_1 (v := .ref x) hl1) hn)
    · obtain ⟨hn1, h⟩ := sm_if h
      obtain rfl := Sum.inr.inj (sm_nx_eq h)
      exact fun H locs lsr hk hl hn => lv_astore_nN hx hb hd rfl (sm_lh_has hl) hn1 rfl (fun ls1 hl1 => g H locs ls1 hk (sm_lh_1 (v := .null) hl1) hn)
  | astore n =>
    obtain rfl := e1 2 (by decide) rfl
    unfold sm_X at h
    dsimp only at h
    rcases sm_pa_eq h with ⟨x, r, rfl, h⟩ | ⟨r, rfl, h⟩
    · obtain ⟨hn1, h⟩ := sm_if h
      obtain rfl := Sum.inr.inj (sm_nx_eq h)
      exact fun H locs lsr hk hl hn => lv_astore hx hb hd (sm_lh_has hl) hn1 rfl (fun ls1 hl1 => g H locs ls1 hk (sm_lh_1 (v := .ref x) hl1) hn)
    · obtain ⟨hn1, h⟩ := sm_if h
      obtain rfl := Sum.inr.inj (sm_nx_eq h)
      exact fun H locs lsr hk hl hn => lv_astoreN hx hb hd (sm_lh_has hl) hn1 rfl (fun ls1 hl1 => g H locs ls1 hk (sm_lh_1 (v := .null) hl1) hn)
  | iinc n z =>
    obtain rfl := e1 3 (by decide) rfl
    obtain ⟨x, hv, h⟩ := sm_ldi_eq h
    obtain ⟨hn1, h⟩ := sm_if h
    obtain rfl := Sum.inr.inj (sm_nx_eq h)
    intro H locs lsr hk hl hn
    obtain ⟨k, hk1⟩ := sm_iinc_get (ρ := sm_rho base tL tG bS) hv
    exact lv_iinc hx hb hd (sm_lh_has hl) hk1 rfl hn1 rfl (fun ls1 hl1 => g H locs ls1 hk (sm_lh_1 (v := .int (x + Int32.ofInt z)) hl1) hn)
  | iadd =>
    obtain rfl := e1 1 (by decide) rfl
    obtain ⟨x, y, r, rfl, h⟩ := sm_p2_eq h
    obtain rfl := Sum.inr.inj (sm_nx_eq h)
    exact fun H locs lsr hk hl hn => lv_iadd hx hb hd (g H locs lsr hk hl hn)
  | isub =>
    obtain rfl := e1 1 (by decide) rfl
    obtain ⟨x, y, r, rfl, h⟩ := sm_p2_eq h
    obtain rfl := Sum.inr.inj (sm_nx_eq h)
    exact fun H locs lsr hk hl hn => lv_isub hx hb hd (g H locs lsr hk hl hn)
  | imul =>
    obtain rfl := e1 1 (by decide) rfl
    obtain ⟨x, y, r, rfl, h⟩ := sm_p2_eq h
    obtain rfl := Sum.inr.inj (sm_nx_eq h)
    exact fun H locs lsr hk hl hn => lv_imul hx hb hd (g H locs lsr hk hl hn)
  | iand =>
    obtain rfl := e1 1 (by decide) rfl
    obtain ⟨x, y, r, rfl, h⟩ := sm_p2_eq h
    obtain rfl := Sum.inr.inj (sm_nx_eq h)
    exact fun H locs lsr hk hl hn => lv_iand hx hb hd (g H locs lsr hk hl hn)
  | ior =>
    obtain rfl := e1 1 (by decide) rfl
    obtain ⟨x, y, r, rfl, h⟩ := sm_p2_eq h
    obtain rfl := Sum.inr.inj (sm_nx_eq h)
    exact fun H locs lsr hk hl hn => lv_ior hx hb hd (g H locs lsr hk hl hn)
  | ixor =>
    obtain rfl := e1 1 (by decide) rfl
    obtain ⟨x, y, r, rfl, h⟩ := sm_p2_eq h
    obtain rfl := Sum.inr.inj (sm_nx_eq h)
    exact fun H locs lsr hk hl hn => lv_ixor hx hb hd (g H locs lsr hk hl hn)
  | ishl =>
    obtain rfl := e1 1 (by decide) rfl
    obtain ⟨x, y, r, rfl, h⟩ := sm_p2_eq h
    obtain rfl := Sum.inr.inj (sm_nx_eq h)
    exact fun H locs lsr hk hl hn => lv_ishl hx hb hd (g H locs lsr hk hl hn)
  | ishr =>
    obtain rfl := e1 1 (by decide) rfl
    obtain ⟨x, y, r, rfl, h⟩ := sm_p2_eq h
    obtain rfl := Sum.inr.inj (sm_nx_eq h)
    exact fun H locs lsr hk hl hn => lv_ishr hx hb hd (g H locs lsr hk hl hn)
  | iushr =>
    obtain rfl := e1 1 (by decide) rfl
    obtain ⟨x, y, r, rfl, h⟩ := sm_p2_eq h
    obtain rfl := Sum.inr.inj (sm_nx_eq h)
    exact fun H locs lsr hk hl hn => lv_iushr hx hb hd rfl (g H locs lsr hk hl hn)
  | ladd =>
    obtain rfl := e1 1 (by decide) rfl
    obtain ⟨x, y, r, rfl, h⟩ := sm_q2_eq h
    obtain rfl := Sum.inr.inj (sm_nx_eq h)
    exact fun H locs lsr hk hl hn => lv_ladd hx hb hd (g H locs lsr hk hl hn)
  | lsub =>
    obtain rfl := e1 1 (by decide) rfl
    obtain ⟨x, y, r, rfl, h⟩ := sm_q2_eq h
    obtain rfl := Sum.inr.inj (sm_nx_eq h)
    exact fun H locs lsr hk hl hn => lv_lsub hx hb hd (g H locs lsr hk hl hn)
  | lmul =>
    obtain rfl := e1 1 (by decide) rfl
    obtain ⟨x, y, r, rfl, h⟩ := sm_q2_eq h
    obtain rfl := Sum.inr.inj (sm_nx_eq h)
    exact fun H locs lsr hk hl hn => lv_lmul hx hb hd (g H locs lsr hk hl hn)
  | land =>
    obtain rfl := e1 1 (by decide) rfl
    obtain ⟨x, y, r, rfl, h⟩ := sm_q2_eq h
    obtain rfl := Sum.inr.inj (sm_nx_eq h)
    exact fun H locs lsr hk hl hn => lv_land hx hb hd (g H locs lsr hk hl hn)
  | lor =>
    obtain rfl := e1 1 (by decide) rfl
    obtain ⟨x, y, r, rfl, h⟩ := sm_q2_eq h
    obtain rfl := Sum.inr.inj (sm_nx_eq h)
    exact fun H locs lsr hk hl hn => lv_lor hx hb hd (g H locs lsr hk hl hn)
  | lcmp =>
    obtain rfl := e1 1 (by decide) rfl
    obtain ⟨x, y, r, rfl, h⟩ := sm_q2_eq h
    obtain rfl := Sum.inr.inj (sm_nx_eq h)
    exact fun H locs lsr hk hl hn => W.lcmp hx hb hd (g H locs lsr hk hl hn)
  | idiv =>
    obtain rfl := e1 1 (by decide) rfl
    obtain ⟨x, y, r, rfl, h⟩ := sm_p2_eq h
    obtain ⟨h0, h⟩ := sm_ifn h
    obtain rfl := Sum.inr.inj (sm_nx_eq h)
    exact fun H locs lsr hk hl hn => lv_idiv hx hb hd h0 (g H locs lsr hk hl hn)
  | irem =>
    obtain rfl := e1 1 (by decide) rfl
    obtain ⟨x, y, r, rfl, h⟩ := sm_p2_eq h
    obtain ⟨h0, h⟩ := sm_ifn h
    obtain rfl := Sum.inr.inj (sm_nx_eq h)
    exact fun H locs lsr hk hl hn => lv_irem hx hb hd h0 (g H locs lsr hk hl hn)
  | ldiv =>
    obtain rfl := e1 1 (by decide) rfl
    obtain ⟨x, y, r, rfl, h⟩ := sm_q2_eq h
    obtain ⟨h0, h⟩ := sm_ifn h
    obtain rfl := Sum.inr.inj (sm_nx_eq h)
    exact fun H locs lsr hk hl hn => lv_ldiv hx hb hd h0 (g H locs lsr hk hl hn)
  | lrem =>
    obtain rfl := e1 1 (by decide) rfl
    obtain ⟨x, y, r, rfl, h⟩ := sm_q2_eq h
    obtain ⟨h0, h⟩ := sm_ifn h
    obtain rfl := Sum.inr.inj (sm_nx_eq h)
    exact fun H locs lsr hk hl hn => lv_lrem hx hb hd h0 (g H locs lsr hk hl hn)
  | lshl =>
    obtain rfl := e1 1 (by decide) rfl
    unfold sm_X at h
    dsimp only at h
    split at h
    · obtain rfl := Sum.inr.inj (sm_nx_eq h)
      exact fun H locs lsr hk hl hn => lv_lshl hx hb hd rfl (g H locs lsr hk hl hn)
    · cases h
  | lushr =>
    obtain rfl := e1 1 (by decide) rfl
    unfold sm_X at h
    dsimp only at h
    split at h
    · obtain rfl := Sum.inr.inj (sm_nx_eq h)
      exact fun H locs lsr hk hl hn => lv_lushr hx hb hd rfl (g H locs lsr hk hl hn)
    · cases h
  | i2l =>
    obtain rfl := e1 1 (by decide) rfl
    obtain ⟨x, r, rfl, h⟩ := sm_p1_eq h
    obtain rfl := Sum.inr.inj (sm_nx_eq h)
    exact fun H locs lsr hk hl hn => lv_i2l hx hb hd rfl (g H locs lsr hk hl hn)
  | l2i =>
    obtain rfl := e1 1 (by decide) rfl
    obtain ⟨x, r, rfl, h⟩ := sm_q1_eq h
    obtain rfl := Sum.inr.inj (sm_nx_eq h)
    exact fun H locs lsr hk hl hn => lv_l2i hx hb hd rfl (g H locs lsr hk hl hn)
  | dup =>
    obtain rfl := e1 1 (by decide) rfl
    unfold sm_X at h
    dsimp only at h
    split at h
    · obtain ⟨h1, h⟩ := sm_if h
      obtain rfl := Sum.inr.inj (sm_nx_eq h)
      exact fun H locs lsr hk hl hn => lv_dup hx hb hd (by rw [sm_cv_cat]; exact h1) (g H locs lsr hk hl hn)
    · cases h
  | dup2 =>
    obtain rfl := e1 1 (by decide) rfl
    unfold sm_X at h
    dsimp only at h
    split at h
    · obtain ⟨h1, h⟩ := sm_if h
      obtain rfl := Sum.inr.inj (sm_nx_eq h)
      exact fun H locs lsr hk hl hn => lv_dup2_11 hx hb hd (by rw [sm_cv_cat]; exact h1.1) (by rw [sm_cv_cat]; exact h1.2) (g H locs lsr hk hl hn)
    · cases h
  | pop =>
    obtain rfl := e1 1 (by decide) rfl
    unfold sm_X at h
    dsimp only at h
    split at h
    · obtain ⟨h1, h⟩ := sm_if h
      obtain rfl := Sum.inr.inj (sm_nx_eq h)
      exact fun H locs lsr hk hl hn => lv_pop hx hb hd (by rw [sm_cv_cat]; exact h1) (g H locs lsr hk hl hn)
    · cases h
  | goto off =>
    obtain rfl := e1 3 (by decide) rfl
    obtain ⟨tgt, ht, h⟩ := sm_to_eq h
    obtain rfl := Sum.inr.inj h
    exact fun H locs lsr hk hl hn => lv_goto hx hb hd ht (g H locs lsr hk hl hn)
  | ifCond cnd off =>
    obtain rfl := e1 3 (by decide) rfl
    obtain ⟨x, r, rfl, h⟩ := sm_p1_eq h
    obtain ⟨tgt, ht, h⟩ := sm_br_eq h
    obtain rfl := Sum.inr.inj h
    cases cnd with
    | eq =>
      by_cases hc : x = 0
      · rw [show sm_ic .eq x 0 = true from decide_eq_true hc] at g
        exact fun H locs lsr hk hl hn => lv_if_eq hx hb hd ht (fun _ => g H locs lsr hk hl hn) (fun q => absurd hc q)
      · rw [show sm_ic .eq x 0 = false from decide_eq_false hc] at g
        exact fun H locs lsr hk hl hn => lv_if_eq hx hb hd ht (fun q => absurd q hc) (fun _ => g H locs lsr hk hl hn)
    | ne =>
      by_cases hc : x = 0
      · rw [show sm_ic .ne x 0 = false from decide_eq_false (fun q => q hc)] at g
        exact fun H locs lsr hk hl hn => lv_if_ne hx hb hd ht (fun q => absurd hc q) (fun _ => g H locs lsr hk hl hn)
      · rw [show sm_ic .ne x 0 = true from decide_eq_true hc] at g
        exact fun H locs lsr hk hl hn => lv_if_ne hx hb hd ht (fun _ => g H locs lsr hk hl hn) (fun q => absurd q hc)
    | lt =>
      by_cases hc : x < 0
      · rw [show sm_ic .lt x 0 = true from decide_eq_true hc] at g
        exact fun H locs lsr hk hl hn => lv_if_lt hx hb hd ht (fun _ => g H locs lsr hk hl hn) (fun q => absurd hc q)
      · rw [show sm_ic .lt x 0 = false from decide_eq_false hc] at g
        exact fun H locs lsr hk hl hn => lv_if_lt hx hb hd ht (fun q => absurd q hc) (fun _ => g H locs lsr hk hl hn)
    | ge =>
      by_cases hc : 0 ≤ x
      · rw [show sm_ic .ge x 0 = true from decide_eq_true hc] at g
        exact fun H locs lsr hk hl hn => lv_if_ge hx hb hd ht (fun _ => g H locs lsr hk hl hn) (fun q => absurd hc q)
      · rw [show sm_ic .ge x 0 = false from decide_eq_false hc] at g
        exact fun H locs lsr hk hl hn => lv_if_ge hx hb hd ht (fun q => absurd q hc) (fun _ => g H locs lsr hk hl hn)
    | gt =>
      by_cases hc : 0 < x
      · rw [show sm_ic .gt x 0 = true from decide_eq_true hc] at g
        exact fun H locs lsr hk hl hn => lv_if_gt hx hb hd ht (fun _ => g H locs lsr hk hl hn) (fun q => absurd hc q)
      · rw [show sm_ic .gt x 0 = false from decide_eq_false hc] at g
        exact fun H locs lsr hk hl hn => lv_if_gt hx hb hd ht (fun q => absurd q hc) (fun _ => g H locs lsr hk hl hn)
    | le =>
      by_cases hc : x ≤ 0
      · rw [show sm_ic .le x 0 = true from decide_eq_true hc] at g
        exact fun H locs lsr hk hl hn => lv_if_le hx hb hd ht (fun _ => g H locs lsr hk hl hn) (fun q => absurd hc q)
      · rw [show sm_ic .le x 0 = false from decide_eq_false hc] at g
        exact fun H locs lsr hk hl hn => lv_if_le hx hb hd ht (fun q => absurd q hc) (fun _ => g H locs lsr hk hl hn)
  | if_icmp cnd off =>
    obtain rfl := e1 3 (by decide) rfl
    obtain ⟨x, y, r, rfl, h⟩ := sm_p2_eq h
    obtain ⟨tgt, ht, h⟩ := sm_br_eq h
    obtain rfl := Sum.inr.inj h
    cases cnd with
    | eq =>
      by_cases hc : x = y
      · rw [show sm_ic .eq x y = true from decide_eq_true hc] at g
        exact fun H locs lsr hk hl hn => lv_icmp_eq hx hb hd ht (fun _ => g H locs lsr hk hl hn) (fun q => absurd hc q)
      · rw [show sm_ic .eq x y = false from decide_eq_false hc] at g
        exact fun H locs lsr hk hl hn => lv_icmp_eq hx hb hd ht (fun q => absurd q hc) (fun _ => g H locs lsr hk hl hn)
    | ne =>
      by_cases hc : x = y
      · rw [show sm_ic .ne x y = false from decide_eq_false (fun q => q hc)] at g
        exact fun H locs lsr hk hl hn => lv_icmp_ne hx hb hd ht (fun q => absurd hc q) (fun _ => g H locs lsr hk hl hn)
      · rw [show sm_ic .ne x y = true from decide_eq_true hc] at g
        exact fun H locs lsr hk hl hn => lv_icmp_ne hx hb hd ht (fun _ => g H locs lsr hk hl hn) (fun q => absurd q hc)
    | lt =>
      by_cases hc : x < y
      · rw [show sm_ic .lt x y = true from decide_eq_true hc] at g
        exact fun H locs lsr hk hl hn => lv_icmp_lt hx hb hd ht (fun _ => g H locs lsr hk hl hn) (fun q => absurd hc q)
      · rw [show sm_ic .lt x y = false from decide_eq_false hc] at g
        exact fun H locs lsr hk hl hn => lv_icmp_lt hx hb hd ht (fun q => absurd q hc) (fun _ => g H locs lsr hk hl hn)
    | ge =>
      by_cases hc : y ≤ x
      · rw [show sm_ic .ge x y = true from decide_eq_true hc] at g
        exact fun H locs lsr hk hl hn => lv_icmp_ge hx hb hd ht (fun _ => g H locs lsr hk hl hn) (fun q => absurd hc q)
      · rw [show sm_ic .ge x y = false from decide_eq_false hc] at g
        exact fun H locs lsr hk hl hn => lv_icmp_ge hx hb hd ht (fun q => absurd q hc) (fun _ => g H locs lsr hk hl hn)
    | gt =>
      by_cases hc : y < x
      · rw [show sm_ic .gt x y = true from decide_eq_true hc] at g
        exact fun H locs lsr hk hl hn => lv_icmp_gt hx hb hd ht (fun _ => g H locs lsr hk hl hn) (fun q => absurd hc q)
      · rw [show sm_ic .gt x y = false from decide_eq_false hc] at g
        exact fun H locs lsr hk hl hn => lv_icmp_gt hx hb hd ht (fun q => absurd q hc) (fun _ => g H locs lsr hk hl hn)
    | le =>
      by_cases hc : x ≤ y
      · rw [show sm_ic .le x y = true from decide_eq_true hc] at g
        exact fun H locs lsr hk hl hn => lv_icmp_le hx hb hd ht (fun _ => g H locs lsr hk hl hn) (fun q => absurd hc q)
      · rw [show sm_ic .le x y = false from decide_eq_false hc] at g
        exact fun H locs lsr hk hl hn => lv_icmp_le hx hb hd ht (fun q => absurd q hc) (fun _ => g H locs lsr hk hl hn)
  | ifnull off =>
    obtain rfl := e1 3 (by decide) rfl
    unfold sm_X at h
    dsimp only at h
    rcases sm_pa_eq h with ⟨x, r, rfl, h⟩ | ⟨r, rfl, h⟩
    · obtain ⟨tgt, ht, h⟩ := sm_br_eq h
      obtain rfl := Sum.inr.inj h
      exact fun H locs lsr hk hl hn => lv_ifnull hx hb hd (g H locs lsr hk hl hn)
    · obtain ⟨tgt, ht, h⟩ := sm_br_eq h
      obtain rfl := Sum.inr.inj h
      exact fun H locs lsr hk hl hn => lv_ifnullN hx hb hd ht (g H locs lsr hk hl hn)
  | ifnonnull off =>
    obtain rfl := e1 3 (by decide) rfl
    unfold sm_X at h
    dsimp only at h
    rcases sm_pa_eq h with ⟨x, r, rfl, h⟩ | ⟨r, rfl, h⟩
    · obtain ⟨tgt, ht, h⟩ := sm_br_eq h
      obtain rfl := Sum.inr.inj h
      exact fun H locs lsr hk hl hn => lv_ifnonnull hx hb hd ht (g H locs lsr hk hl hn)
    · obtain ⟨tgt, ht, h⟩ := sm_br_eq h
      obtain rfl := Sum.inr.inj h
      exact fun H locs lsr hk hl hn => lv_ifnonnullN hx hb hd (g H locs lsr hk hl hn)
  | tableswitch dflt lo hi offs =>
    unfold sm_X at h
    dsimp only at h
    have h9 := sm_p1_eq h
    clear h
    obtain ⟨x, r, rfl, h⟩ := h9
    by_cases ho : x.toInt < lo ∨ hi < x.toInt
    · rw [if_pos ho] at h
      obtain ⟨tgt, ht, h⟩ := sm_to_eq h
      obtain rfl := Sum.inr.inj h
      exact fun H locs lsr hk hl hn => lv_tableOut hx hb hd ho ht (g H locs lsr hk hl hn)
    · rw [if_neg ho] at h
      cases hoff : offs[(x.toInt - lo).toNat]? with
      | none => rw [hoff] at h; cases h
      | some off =>
        rw [hoff] at h
        obtain ⟨tgt, ht, h⟩ := sm_to_eq h
        obtain rfl := Sum.inr.inj h
        exact fun H locs lsr hk hl hn => lv_tableIn hx hb hd (fun q => ho (Or.inl q)) (fun q => ho (Or.inr q)) hoff ht (g H locs lsr hk hl hn)
  | lookupswitch dflt ps =>
    obtain ⟨x, r, rfl, h⟩ := sm_p1_eq h
    obtain ⟨h0, h⟩ := sm_if h
    obtain ⟨tgt, ht, h⟩ := sm_to_eq h
    obtain rfl := Sum.inr.inj h
    exact fun H locs lsr hk hl hn => lv_lookup hx hb hd h0 rfl ht (g H locs lsr hk hl hn)
  | getfield x =>
    obtain rfl := e1 3 (by decide) rfl
    unfold sm_X at h
    dsimp only at h
    cases hf : sm_fld (sm_o i) x with
    | none => rw [hf] at h; cases h
    | some q =>
      obtain ⟨c0, k, z⟩ := q
      rw [hf] at h
      dsimp only at h
      split at h
      · obtain ⟨h1, h⟩ := sm_if h
        obtain rfl := Sum.inr.inj (sm_nx_eq h)
        exact sm_a_get hx hb hown hts hd hf h1.1 h1.2 g
      · cases h
  | putfield x =>
    obtain rfl := e1 3 (by decide) rfl
    unfold sm_X at h
    dsimp only at h
    cases hf : sm_fld (sm_o i) x with
    | none => rw [hf] at h; cases h
    | some q =>
      obtain ⟨c0, k, z⟩ := q
      rw [hf] at h
      dsimp only at h
      split at h
      · obtain ⟨⟨h1, h2, h3⟩, h⟩ := sm_if h
        obtain rfl := Sum.inr.inj (sm_nx_eq h)
        rename_i v a r
        refine sm_a_put hx hb hown hts hin hd hf h1.1 h1.2 (Or.inl h3) (fun ty hty => ?_) (fun b hb => funext fun j => by unfold sm_up; simp [hb]) (fun _ _ => rfl) (fun _ _ => rfl) (fun j hj => by unfold sm_fv sm_up; simp [hj]) ?_ g
        · rcases h2 with h2 | ⟨h2, h4⟩
          · rcases hty with ⟨_, rfl⟩ | ⟨q, _⟩ | ⟨q, _⟩ | ⟨q, _⟩
            · exact ⟨rfl, rfl⟩
            all_goals omega
          · rcases hty with ⟨q, _⟩ | ⟨_, rfl⟩ | ⟨q, _⟩ | ⟨q, _⟩
            · omega
            · rcases h4 with rfl | rfl <;> exact ⟨rfl, rfl⟩
            all_goals omega
        · unfold sm_fv sm_up
          rw [if_pos (by rcases h2 with h2 | h2 <;> omega)]
          simp
      · obtain ⟨⟨h1, h2, h3⟩, h⟩ := sm_if h
        obtain rfl := Sum.inr.inj (sm_nx_eq h)
        refine sm_a_put hx hb hown hts hin hd hf h1.1 h1.2 (Or.inl h3) (fun ty hty => ?_) (fun _ _ => rfl) (fun b hb => funext fun j => by unfold sm_up; simp [hb]) (fun _ _ => rfl) (fun j hj => by unfold sm_fv sm_up; simp [hj]) ?_ g
        · rcases hty with ⟨q, _⟩ | ⟨q, _⟩ | ⟨_, rfl⟩ | ⟨q, _⟩
          · omega
          · omega
          · exact ⟨rfl, rfl⟩
          · omega
        · unfold sm_fv sm_up
          rw [if_neg (by omega), if_pos h2]
          simp
      · obtain ⟨⟨h1, h2, h3⟩, h⟩ := sm_if h
        obtain rfl := Sum.inr.inj (sm_nx_eq h)
        refine sm_a_put hx hb hown hts hin hd hf h1.1 h1.2 h3 (fun ty hty => ?_) (fun _ _ => rfl) (fun _ _ => rfl) (fun b hb => funext fun j => by unfold sm_up; simp [hb]) (fun j hj => by unfold sm_fv sm_up; simp [hj]) ?_ g
        · rcases hty with ⟨q, _⟩ | ⟨q, _⟩ | ⟨q, _⟩ | ⟨_, q⟩
          · omega
          · omega
          · omega
          · rcases q with ⟨n, rfl⟩ | ⟨n, rfl⟩ <;> exact ⟨rfl, rfl⟩
        · unfold sm_fv sm_up
          rw [if_neg (by omega), if_neg (by omega)]
          simp [va_rf]
      · cases h
  | getstatic x =>
    obtain rfl := e1 3 (by decide) rfl
    unfold sm_X at h
    dsimp only at h
    cases hf : sm_stf (sm_o i) x with
    | none => rw [hf] at h; cases h
    | some q =>
      obtain ⟨k, z⟩ := q
      rw [hf] at h
      obtain rfl := Sum.inr.inj (sm_nx_eq h)
      rcases sm_st_in hf with ⟨rfl, hw⟩ | ⟨rfl, hw⟩
      · exact fun H locs lsr hk hl hn => va_gets hx hb hE.2.2.2.1.1 hk.2.2.1 hown (hts _ hw) (fun _ q => q) hd (g H locs lsr hk hl hn)
      · exact fun H locs lsr hk hl hn => va_gets hx hb hE.2.2.2.2.1 hk.2.2.1 hown (hts _ hw) (fun _ q => q) hd (g H locs lsr hk hl hn)
  | iaload =>
    obtain rfl := e1 1 (by decide) rfl
    unfold sm_X at h
    dsimp only at h
    split at h
    · rename_i x a r
      by_cases ha : a < N
      · rw [if_pos ha] at h
        split at h
        · obtain ⟨h1, h⟩ := sm_if h
          obtain rfl := Sum.inr.inj (sm_nx_eq h)
          exact sm_a_iald hx hb hd ha (by assumption) h1 g
        · cases h
      · rw [if_neg ha] at h
        by_cases h2 : a = 1048576 ∨ a = 1048577
        · rw [if_pos h2] at h
          obtain ⟨h1, h⟩ := sm_if h
          obtain rfl := Sum.inr.inj (sm_nx_eq h)
          rcases h2 with rfl | rfl
          · exact fun H locs lsr hk hl hn => va_ti hx hb hE.2.2.2.1.2 hk.2.2.1 h1 rfl hd (g H locs lsr hk hl hn)
          · exact fun H locs lsr hk hl hn => va_ti hx hb hE.2.2.2.2.2 hk.2.2.1 h1 rfl hd (g H locs lsr hk hl hn)
        · rw [if_neg h2] at h
          by_cases h3 : a = 1048578
          · rw [if_pos h3] at h
            cases hX9 : X with
            | none => rw [hX9] at h; cases h
            | some q =>
              rw [hX9] at h
              obtain ⟨h1, h⟩ := sm_if h
              obtain rfl := Sum.inr.inj (sm_nx_eq h)
              subst h3
              obtain ⟨x1, x2⟩ := hX q hX9
              exact fun H locs lsr hk hl hn => va_sld (A := fun q => base ≤ q) hx hb x1 (show bS < s.heap.size by omega) (show ¬ base ≤ bS by omega) hk.2.2.1 h1 hd (g H locs lsr hk hl hn)
          · rw [if_neg h3] at h; cases h
    · cases h
  | iastore =>
    obtain rfl := e1 1 (by decide) rfl
    unfold sm_X at h
    dsimp only at h
    split at h
    · obtain ⟨ha, h⟩ := sm_if h
      split at h
      · obtain ⟨h1, h⟩ := sm_if h
        obtain rfl := Sum.inr.inj (sm_nx_eq h)
        exact sm_a_iast hx hb hd ha (by assumption) h1 g
      · cases h
    · cases h
  | aaload =>
    obtain rfl := e1 1 (by decide) rfl
    unfold sm_X at h
    dsimp only at h
    split at h
    · obtain ⟨ha, h⟩ := sm_if h
      split at h
      · obtain ⟨h1, h⟩ := sm_if h
        obtain rfl := Sum.inr.inj (sm_nx_eq h)
        exact sm_a_aald hx hb hd ha (by assumption) h1 g
      · cases h
    · cases h
  | aastore =>
    obtain rfl := e1 1 (by decide) rfl
    unfold sm_X at h
    dsimp only at h
    split at h
    · obtain ⟨ha, h⟩ := sm_if h
      split at h
      · obtain ⟨h1, h⟩ := sm_if h
        obtain rfl := Sum.inr.inj (sm_nx_eq h)
        exact sm_a_aast hx hb hd ha.1 ha.2.1 ha.2.2 (by assumption) h1 g
      · cases h
    · cases h
  | arraylength =>
    obtain rfl := e1 1 (by decide) rfl
    unfold sm_X at h
    dsimp only at h
    split at h
    · rename_i a r
      by_cases ha : a < N
      · rw [if_pos ha] at h
        split at h
        · rename_i n hy
          obtain rfl := Sum.inr.inj (sm_nx_eq h)
          intro H locs lsr hk hl hn
          have hw := sm_cw_get (cyI := cyI) (cyB := cyB) (base := base) (ρ := sm_rho base tL tG bS) (I := I) (L := L) (P := P) ha
          rw [sm_ce_i hy] at hw
          have hρ : sm_rho base tL tG bS a = base + a := sm_rho_in (Nat.lt_of_lt_of_le ha hk.2.2.2)
          show W p l e R s m args below meth c H locs (N - N0) (sm_sl N - sm_sl N0) Q (F0 m pc lsr (.ref (sm_rho base tL tG bS a) :: r.map (sm_cv (sm_rho base tL tG bS))))
          rw [hρ]
          exact va_alen hx hb hk.1 hk.2.1 a 0 hw rfl rfl hd (g H locs lsr hk hl hn)
        · cases h
      · rw [if_neg ha] at h
        by_cases h3 : a = 1048578
        · rw [if_pos h3] at h
          cases hX9 : X with
          | none => rw [hX9] at h; cases h
          | some q =>
            rw [hX9] at h
            obtain rfl := Sum.inr.inj (sm_nx_eq h)
            subst h3
            obtain ⟨x1, x2⟩ := hX q hX9
            exact fun H locs lsr hk hl hn => va_slen (A := fun q => base ≤ q) hx hb x1 (show bS < s.heap.size by omega) (show ¬ base ≤ bS by omega) hk.2.2.1 hd (g H locs lsr hk hl hn)
        · rw [if_neg h3] at h; cases h
    · cases h
  | newarray ty =>
    obtain rfl := e1 2 (by decide) rfl
    cases ty with
    | int =>
      obtain ⟨x, r, rfl, h⟩ := sm_p1_eq h
      obtain ⟨h1, h⟩ := sm_if h
      obtain rfl := Sum.inr.inj (sm_nx_eq h)
      exact sm_a_newa hx hb hts hs hNf hd h1.1 h1.2.1 h1.2.2 hle g
    | _ => exact sm_no (show (none : Option (sm_Rs ⊕ sm_St)) = some _ from h)
  | anewarray y =>
    obtain rfl := e1 3 (by decide) rfl
    unfold sm_X at h
    dsimp only at h
    cases hf : sm_nw (sm_o i) y with
    | none => rw [hf] at h; cases h
    | some q =>
      obtain ⟨k, z⟩ := q
      rw [hf] at h
      obtain ⟨x, r, rfl, h⟩ := sm_p1_eq h
      obtain ⟨h1, h⟩ := sm_if h
      obtain rfl := Sum.inr.inj (sm_nx_eq h)
      obtain ⟨a1, a2, a3, a4⟩ := h1
      dsimp only at a4
      subst a4
      exact sm_a_anew hx hb hown hts hE hs hNf hd hf a1 a2 a3 hle g
  | new y =>
    obtain rfl := e1 3 (by decide) rfl
    unfold sm_X at h
    dsimp only at h
    cases hf : sm_nw (sm_o i) y with
    | none => rw [hf] at h; cases h
    | some q =>
      obtain ⟨k, z⟩ := q
      rw [hf] at h
      obtain ⟨h1, h⟩ := sm_if h
      obtain rfl := Sum.inr.inj (sm_nx_eq h)
      exact sm_a_new hx hb hown hts hs hNf hd hf h1.1 h1.2 hle g
  | invokestatic x =>
    obtain rfl := e1 3 (by decide) rfl
    unfold sm_X at h
    dsimp only at h
    cases hf : sm_cal (sm_o i) x with
    | some q =>
      obtain ⟨j, z, k⟩ := q
      rw [hf] at h
      obtain ⟨h1, h⟩ := sm_if h
      exact sm_a_stat hx hb hml hown hts hE hs hR hNf hC hd hf h1 (sm_ml_j (sm_cal_ok hf).1).1 h hle g
    | none =>
      rw [hf] at h
      dsimp only at h
      cases hf2 : sm_ac (sm_o i) x with
      | none => rw [hf2] at h; cases h
      | some z =>
        rw [hf2] at h
        dsimp only at h
        split at h
        · obtain ⟨h1, h⟩ := sm_if h
          split at h
          · obtain ⟨h2, h⟩ := sm_if h
            obtain rfl := Sum.inr.inj (sm_nx_eq h)
            exact sm_a_copy hx hb hml hown hts ⟨by omega, by omega⟩ hd hf2 h1.1.1 h1.1.2.1 h1.1.2.2 (by assumption) (by assumption) h1.2.1 h1.2.2.1 h1.2.2.2 h2.1 h2.2 g
          · cases h
        · cases h
  | invokevirtual x =>
    obtain rfl := e1 3 (by decide) rfl
    unfold sm_X at h
    dsimp only at h
    cases hf : sm_cal (sm_o i) x with
    | none => rw [hf] at h; cases h
    | some q =>
      obtain ⟨j, z, k⟩ := q
      rw [hf] at h
      obtain ⟨h1, h⟩ := sm_if h
      obtain ⟨⟨a1, a2⟩, a3⟩ := h1
      dsimp only at a2
      subst a2
      exact sm_a_virt hx hb hml hown hts hE hs hR hNf hC hd hf a1 a3 (sm_ml_j (sm_cal_ok hf).1).1 ((sm_ml_j (sm_cal_ok hf).1).2 a1) h hle g
  | invokespecial x =>
    obtain rfl := e1 3 (by decide) rfl
    unfold sm_X at h
    dsimp only at h
    cases hf : sm_cal (sm_o i) x with
    | some q =>
      obtain ⟨j, z, k⟩ := q
      rw [hf] at h
      obtain ⟨h1, h⟩ := sm_if h
      exact sm_a_spec hx hb hml hown hts hE hs hR hNf hC hd hf h1.1 h1.2 (sm_ml_j (sm_cal_ok hf).1).1 h hle g
    | none =>
      rw [hf] at h
      dsimp only at h
      cases hf2 : sm_ob (sm_o i) x with
      | none => rw [hf2] at h; cases h
      | some z =>
        rw [hf2] at h
        dsimp only at h
        split at h
        · rename_i a r
          have h9 := sm_if h
          clear h
          obtain ⟨h1, h⟩ := h9
          obtain rfl := Sum.inr.inj (sm_nx_eq h)
          intro H locs lsr hk hl hn
          have hcs := sm_cat_sum (sm_rho base tL tG bS) h1
          refine W.objInit (g := F0 m pc lsr (.ref (sm_rho base tL tG bS a) :: r.map (sm_cv (sm_rho base tL tG bS)))) hx hb hown (hts _ (sm_ob_in hf2)) (hts _ sm_w_oi) (hts _ sm_w_oc) rfl (by rw [hml]; exact hl.1) rfl hd (by omega) (by have := lv_room (m := m) (pc := pc) (ls := lsr) (rest := Value.ref (sm_rho base tL tG bS a) :: r.map (sm_cv (sm_rho base tL tG bS))) hcs; omega) ?_
          exact g H locs lsr hk hl hn
        · cases h
  | ireturn =>
    unfold sm_X at h
    dsimp only at h
    split at h
    · exact sm_no2 (sm_if h).2
    · exact sm_no h
  | lreturn =>
    unfold sm_X at h
    dsimp only at h
    split at h
    · exact sm_no2 (sm_if h).2
    · exact sm_no h
  | areturn =>
    unfold sm_X at h
    dsimp only at h
    split at h
    · exact sm_no2 (sm_if h).2
    · exact sm_no2 (sm_if h).2
    · exact sm_no h
  | return_ =>
    unfold sm_X at h
    dsimp only at h
    split at h
    · exact sm_no2 (sm_if h).2
    · exact sm_no h
  | _ => exact sm_no (show (none : Option (sm_Rs ⊕ sm_St)) = some _ from h)
end SMM
end
section
section SMD
variable {p : Program} {l : Launch} {e : Env} {R : Room} {s : State} {m : MethodId} {args : Array Value} {below : List Frame} {meth : Method} {c : Code} {Q : State → Prop} {D : va_G} {cyI cyB : ClassId} {base tL tG bS N0 i Nf d : Nat} {C : sm_Cf} {X : sm_Xs}
/-- cells are only ever added -/
theorem sm_grow_S (hC : ∀ (j : Nat) (as : List Value) (N : Nat) (I : sm_Im) (L : sm_Lm) (P : sm_Pm) (r : sm_Rs), C j as N I L P = some r → N ≤ r.2.1 ∧ (N ≤ 1000 → r.2.1 ≤ 1000)) {t t1 : sm_St} (h : sm_S C X i t = some (.inr t1)) : t.2.2.2.1 ≤ t1.2.2.2.1 ∧ (t.2.2.2.1 ≤ 1000 → t1.2.2.2.1 ≤ 1000) := by
  obtain ⟨pc, ls, st, N, I, L, P⟩ := t
  unfold sm_S at h
  dsimp only at h
  cases hd : decode (sm_b i) pc with
  | error _ => rw [hd] at h; cases h
  | ok q =>
  obtain ⟨ins, len⟩ := q
  rw [hd] at h
  have h9 := sm_if h
  clear h
  obtain ⟨-, h⟩ := h9
  dsimp only at h
  have iv : ∀ {j n : Nat}, sm_iv C j n pc ls st N I L P = some (.inr t1) → N ≤ t1.2.2.2.1 ∧ (N ≤ 1000 → t1.2.2.2.1 ≤ 1000) := by
    intro j n h
    obtain ⟨rs, -, -, h3, h4⟩ := sm_iv_eq h
    obtain rfl := Sum.inr.inj h4
    exact hC _ _ _ _ _ _ _ h3
  have nx : ∀ {pc1 : Nat} {ls1 : List (Option Value)} {st1 : List Value} {N1 : Nat} {I1 : sm_Im} {L1 : sm_Lm} {P1 : sm_Pm}, (N ≤ N1 ∧ (N ≤ 1000 → N1 ≤ 1000)) → sm_nx pc1 ls1 st1 N1 I1 L1 P1 = some (.inr t1) → N ≤ t1.2.2.2.1 ∧ (N ≤ 1000 → t1.2.2.2.1 ≤ 1000) := by
    intro pc1 ls1 st1 N1 I1 L1 P1 hn h
    obtain rfl := Sum.inr.inj (sm_nx_eq h)
    exact hn
  have nxs : ∀ {pc1 : Nat} {ls1 : List (Option Value)} {st1 : List Value} {I1 : sm_Im} {L1 : sm_Lm} {P1 : sm_Pm}, N < sm_NN → sm_nx pc1 ls1 st1 (N + 1) I1 L1 P1 = some (.inr t1) → N ≤ t1.2.2.2.1 ∧ (N ≤ 1000 → t1.2.2.2.1 ≤ 1000) := fun hn h => nx ⟨Nat.le_succ N, fun _ => by have h81 : N < 81 := hn; omega⟩ h
  have to : ∀ {off : Int} {ls1 : List (Option Value)} {st1 : List Value}, sm_to pc off ls1 st1 N I L P = some (.inr t1) → N ≤ t1.2.2.2.1 ∧ (N ≤ 1000 → t1.2.2.2.1 ≤ 1000) := fun h => nx ⟨Nat.le_refl N, id⟩ (sm_if h).2
  have br : ∀ {b : Bool} {off : Int} {ls1 : List (Option Value)} {st1 : List Value}, sm_br b pc off ls1 st1 N I L P = some (.inr t1) → N ≤ t1.2.2.2.1 ∧ (N ≤ 1000 → t1.2.2.2.1 ≤ 1000) := fun h => nx ⟨Nat.le_refl N, id⟩ (sm_if h).2
  unfold sm_X at h
  dsimp only
  split at h
  all_goals first
    | exact nx ⟨Nat.le_refl N, id⟩ h
    | exact to h
    | (obtain ⟨_, _, _, _, h⟩ := sm_p2_eq h; first | exact nx ⟨Nat.le_refl N, id⟩ h | exact nx ⟨Nat.le_refl N, id⟩ (sm_ifn h).2 | exact br h)
    | (obtain ⟨_, _, _, _, h⟩ := sm_q2_eq h; first | exact nx ⟨Nat.le_refl N, id⟩ h | exact nx ⟨Nat.le_refl N, id⟩ (sm_ifn h).2)
    | (obtain ⟨_, _, h⟩ := sm_ldi_eq h; first | exact nx ⟨Nat.le_refl N, id⟩ h | exact nx ⟨Nat.le_refl N, id⟩ (sm_if h).2)
    | (obtain ⟨_, _, h⟩ := sm_ldl_eq h; exact nx ⟨Nat.le_refl N, id⟩ h)
    | (rcases sm_lda_eq h with ⟨_, _, h⟩ | ⟨_, h⟩ <;> exact nx ⟨Nat.le_refl N, id⟩ h)
    | (rcases sm_pa_eq h with ⟨_, _, _, h⟩ | ⟨_, _, h⟩ <;> first | exact nx ⟨Nat.le_refl N, id⟩ (sm_if h).2 | exact br h)
    | (obtain ⟨_, _, _, h⟩ := sm_q1_eq h; first | exact nx ⟨Nat.le_refl N, id⟩ h | exact nx ⟨Nat.le_refl N, id⟩ (sm_if h).2)
    | (obtain ⟨_, _, _, h⟩ := sm_p1_eq h; first | exact nx ⟨Nat.le_refl N, id⟩ h | exact nx ⟨Nat.le_refl N, id⟩ (sm_if h).2 | exact nxs (sm_if h).1.1 (sm_if h).2 | exact nxs (sm_if h).1.2.1 (sm_if h).2 | exact br h | exact to (sm_if h).2 | (split at h <;> first | exact to h | (split at h <;> first | exact to h | cases h)))
    | cases h
    | skip
  all_goals (try split at h)
  all_goals first
    | exact nx ⟨Nat.le_refl N, id⟩ h
    | exact nx ⟨Nat.le_refl N, id⟩ (sm_if h).2
    | exact nxs (sm_if h).1.1 (sm_if h).2
    | exact nxs (sm_if h).1.2.1 (sm_if h).2
    | exact iv (sm_if h).2
    | (obtain ⟨_, _, _, h⟩ := sm_p1_eq h; first | exact nxs (sm_if h).1.1 (sm_if h).2 | exact nxs (sm_if h).1.2.1 (sm_if h).2)
    | cases h
    | skip
  all_goals (try (have h9 := sm_if h; clear h; obtain ⟨_, h⟩ := h9))
  all_goals (try split at h)
  all_goals first
    | exact nx ⟨Nat.le_refl N, id⟩ h
    | exact nx ⟨Nat.le_refl N, id⟩ (sm_if h).2
    | cases h
    | skip
  all_goals (try (have h9 := sm_if h; clear h; obtain ⟨_, h⟩ := h9))
  all_goals (try split at h)
  all_goals first
    | exact nx ⟨Nat.le_refl N, id⟩ h
    | exact nx ⟨Nat.le_refl N, id⟩ (sm_if h).2
    | cases h
    | skip
  all_goals (try (have h9 := sm_if h; clear h; obtain ⟨_, h⟩ := h9))
  all_goals (try split at h)
  all_goals first
    | exact nx ⟨Nat.le_refl N, id⟩ h
    | exact nx ⟨Nat.le_refl N, id⟩ (sm_if h).2
    | cases h
    | skip
/-- what a return says -/
def sm_Rt (i : Nat) (t : sm_St) (r : sm_Rs) : Prop := r.2 = t.2.2.2 ∧
  ((∃ v, decode (sm_b i) t.1 = .ok (.ireturn, 1) ∧ t.2.2.1 = [.int v] ∧ r.1 = some (.int v) ∧ (sm_rt i = some .int ∨ (sm_rt i = some .boolean ∧ v &&& 1 = v))) ∨
   (∃ v, decode (sm_b i) t.1 = .ok (.lreturn, 1) ∧ t.2.2.1 = [.long v] ∧ r.1 = some (.long v) ∧ sm_rt i = some .long) ∨
   (∃ o, decode (sm_b i) t.1 = .ok (.areturn, 1) ∧ t.2.2.1 = [va_rf o] ∧ r.1 = some (va_rf o) ∧ sm_rt i = some (.object "FeltByTwin$Birth")) ∨
   (decode (sm_b i) t.1 = .ok (.return_, 1) ∧ t.2.2.1 = [] ∧ r.1 = none ∧ sm_rt i = none))
theorem sm_no3 {α β : Type} {a : α} {b : β} {A : Prop} (h : (some (Sum.inr b) : Option (α ⊕ β)) = some (Sum.inl a)) : A := by cases h
theorem sm_ret_S {t : sm_St} {r : sm_Rs} (h : sm_S C X i t = some (.inl r)) : sm_Rt i t r := by
  obtain ⟨pc, ls, st, N, I, L, P⟩ := t
  unfold sm_S at h
  dsimp only at h
  cases hd : decode (sm_b i) pc with
  | error _ => rw [hd] at h; cases h
  | ok q =>
  obtain ⟨ins, len⟩ := q
  rw [hd] at h
  have h9 := sm_if h
  clear h
  obtain ⟨hlen, h⟩ := h9
  dsimp only at h hlen
  have iv : ∀ {j n : Nat} {A : Prop}, sm_iv C j n pc ls st N I L P = some (.inl r) → A := by
    intro j n A h
    obtain ⟨rs, -, -, h3, h4⟩ := sm_iv_eq h
    cases h4
  have nx : ∀ {pc1 : Nat} {ls1 : List (Option Value)} {st1 : List Value} {N1 : Nat} {I1 : sm_Im} {L1 : sm_Lm} {P1 : sm_Pm} {A : Prop}, sm_nx pc1 ls1 st1 N1 I1 L1 P1 = some (.inl r) → A := by
    intro pc1 ls1 st1 N1 I1 L1 P1 A h
    exact sm_no3 h
  have to : ∀ {off : Int} {ls1 : List (Option Value)} {st1 : List Value} {A : Prop}, sm_to pc off ls1 st1 N I L P = some (.inl r) → A := fun h => nx (sm_if h).2
  have br : ∀ {b : Bool} {off : Int} {ls1 : List (Option Value)} {st1 : List Value} {A : Prop}, sm_br b pc off ls1 st1 N I L P = some (.inl r) → A := fun h => nx (sm_if h).2
  unfold sm_X at h
  split at h
  all_goals first
    | exact nx h
    | exact to h
    | (obtain ⟨_, _, _, _, h⟩ := sm_p2_eq h; first | exact nx h | exact nx (sm_ifn h).2 | exact br h)
    | (obtain ⟨_, _, _, _, h⟩ := sm_q2_eq h; first | exact nx h | exact nx (sm_ifn h).2)
    | (obtain ⟨_, _, h⟩ := sm_ldi_eq h; first | exact nx h | exact nx (sm_if h).2)
    | (obtain ⟨_, _, h⟩ := sm_ldl_eq h; exact nx h)
    | (rcases sm_lda_eq h with ⟨_, _, h⟩ | ⟨_, h⟩ <;> exact nx h)
    | (rcases sm_pa_eq h with ⟨_, _, _, h⟩ | ⟨_, _, h⟩ <;> first | exact nx (sm_if h).2 | exact br h)
    | (obtain ⟨_, _, _, h⟩ := sm_q1_eq h; first | exact nx h | exact nx (sm_if h).2)
    | (obtain ⟨_, _, _, h⟩ := sm_p1_eq h; first | exact nx h | exact nx (sm_if h).2 | exact br h | exact to (sm_if h).2 | (split at h <;> first | exact to h | (split at h <;> first | exact to h | cases h)))
    | exact sm_no h
    | skip
  all_goals (split at h)
  all_goals first
    | exact nx h
    | exact nx (sm_if h).2
    | exact iv (sm_if h).2
    | (obtain ⟨_, _, _, h⟩ := sm_p1_eq h; exact nx (sm_if h).2)
    | exact sm_no h
    | (have h9 := sm_if h; clear h; obtain ⟨hc, h⟩ := h9; obtain rfl := Sum.inl.inj (Option.some.inj h); exact ⟨rfl, Or.inl ⟨_, by rw [hd]; exact congrArg (fun q => Except.ok (Instr.ireturn, q)) (hlen.resolve_left (by decide)).symm, rfl, rfl, hc⟩⟩)
    | (have h9 := sm_if h; clear h; obtain ⟨hc, h⟩ := h9; obtain rfl := Sum.inl.inj (Option.some.inj h); exact ⟨rfl, Or.inr (Or.inl ⟨_, by rw [hd]; exact congrArg (fun q => Except.ok (Instr.lreturn, q)) (hlen.resolve_left (by decide)).symm, rfl, rfl, hc⟩)⟩)
    | (have h9 := sm_if h; clear h; obtain ⟨hc, h⟩ := h9; obtain rfl := Sum.inl.inj (Option.some.inj h); exact ⟨rfl, Or.inr (Or.inr (Or.inl ⟨some _, by rw [hd]; exact congrArg (fun q => Except.ok (Instr.areturn, q)) (hlen.resolve_left (by decide)).symm, rfl, rfl, hc⟩))⟩)
    | (have h9 := sm_if h; clear h; obtain ⟨hc, h⟩ := h9; obtain rfl := Sum.inl.inj (Option.some.inj h); exact ⟨rfl, Or.inr (Or.inr (Or.inl ⟨none, by rw [hd]; exact congrArg (fun q => Except.ok (Instr.areturn, q)) (hlen.resolve_left (by decide)).symm, rfl, rfl, hc⟩))⟩)
    | (have h9 := sm_if h; clear h; obtain ⟨hc, h⟩ := h9; obtain rfl := Sum.inl.inj (Option.some.inj h); exact ⟨rfl, Or.inr (Or.inr (Or.inr ⟨by rw [hd]; exact congrArg (fun q => Except.ok (Instr.return_, q)) (hlen.resolve_left (by decide)).symm, rfl, rfl, hc⟩))⟩)
    | skip
  all_goals (try (have h9 := sm_if h; clear h; obtain ⟨_, h⟩ := h9))
  all_goals (try split at h)
  all_goals first
    | exact nx h
    | exact nx (sm_if h).2
    | exact sm_no h
    | skip
  all_goals (try (have h9 := sm_if h; clear h; obtain ⟨_, h⟩ := h9))
  all_goals (try split at h)
  all_goals first
    | exact nx h
    | exact nx (sm_if h).2
    | exact sm_no h
    | skip
  all_goals (try (have h9 := sm_if h; clear h; obtain ⟨_, h⟩ := h9))
  all_goals (try split at h)
  all_goals first
    | exact nx h
    | exact nx (sm_if h).2
    | exact sm_no h
    | skip
end SMD
end
section
section SME
theorem sm_run_N {C : sm_Cf} {X : sm_Xs} {i : Nat} (hC : ∀ (j : Nat) (as : List Value) (N : Nat) (I : sm_Im) (L : sm_Lm) (P : sm_Pm) (r : sm_Rs), C j as N I L P = some r → N ≤ r.2.1 ∧ (N ≤ 1000 → r.2.1 ≤ 1000)) : ∀ (n : Nat) (t : sm_St) (r : sm_Rs), sm_run C X i n t = some r → t.2.2.2.1 ≤ r.2.1 ∧ (t.2.2.2.1 ≤ 1000 → r.2.1 ≤ 1000) := by
  intro n
  induction n with
  | zero => intro t r h; cases h
  | succ n ih =>
    intro t r h
    unfold sm_run at h
    cases hs : sm_S C X i t with
    | none => rw [hs] at h; cases h
    | some q =>
      rw [hs] at h
      cases q with
      | inl r1 =>
        obtain rfl := Option.some.inj h
        have := (sm_ret_S hs).1
        have e : r1.2.1 = t.2.2.2.1 := congrArg (fun q => q.1) this
        rw [e]
        exact ⟨Nat.le_refl _, id⟩
      | inr t1 =>
        have a := sm_grow_S hC hs
        have b := ih t1 r h
        exact ⟨Nat.le_trans a.1 b.1, fun q => b.2 (a.2 q)⟩
theorem sm_ex_N : ∀ (d j : Nat) (as : List Value) (N : Nat) (I : sm_Im) (L : sm_Lm) (P : sm_Pm) (r : sm_Rs), sm_ex d j as N I L P = some r → N ≤ r.2.1 ∧ (N ≤ 1000 → r.2.1 ≤ 1000) := by
  intro d
  induction d with
  | zero => intro j as N I L P r h; cases h
  | succ d ih =>
    intro j as N I L P r h
    obtain ⟨-, h⟩ := sm_if h
    obtain ⟨n, hn⟩ := sm_lim_iff.mp h
    exact sm_run_N ih n _ r hn
variable {p : Program} {l : Launch} {e : Env} {R : Room} {s : State} {m : MethodId} {args : Array Value} {below : List Frame} {meth : Method} {c : Code} {D : va_G} {cyI cyB : ClassId} {base tL tG bS N0 i d : Nat} {C : sm_Cf} {X : sm_Xs}
/-- from a state of the small machine that comes to an answer, the machine comes to it -/
theorem sm_runs (hx : p.tables.exec = Jvm.exec) (hb : c.code = sm_b i) (hml : c.maxLocals = sm_ml i) (hr : meth.sig.returnType = sm_rt i) (hlocks : meth.locks = false) (hown : s.vm.findClass (sm_cn (sm_o i)) = some m.cls) (hts : ∀ w ∈ sm_W, w.before args s = true) (hE : sm_En base tL tG s) (hX : ∀ q, X = some q → va_X bS q.1 q.2 s s.heap ∧ bS < base) (hin : sm_kd i = 2 → meth.name = "<init>") (hs : s.heap.size = base + N0) (hR : d + 1 ≤ R.frames ∧ 64 * (d + 1) ≤ R.locals) (hG : ∀ (j : Nat) (as : List Value) (N : Nat) (I : sm_Im) (L : sm_Lm) (P : sm_Pm) (r : sm_Rs), C j as N I L P = some r → N ≤ r.2.1 ∧ (N ≤ 1000 → r.2.1 ≤ 1000)) (hC : sm_CM l D cyI cyB base tL tG bS d C) (r : sm_Rs) (hNf : r.2.1 - N0 ≤ R.cells ∧ sm_sl r.2.1 - sm_sl N0 ≤ R.slots) :
    ∀ (n : Nat) (t : sm_St), sm_run C X i n t = some r → sm_Go p l e R s m args below meth c (MQ below (sm_Qc D cyI cyB base (sm_rho base tL tG bS) r) args s (r.2.1 - N0) (sm_sl r.2.1 - sm_sl N0) (fun q => base ≤ q)) D cyI cyB base (sm_rho base tL tG bS) (sm_ml i) N0 t := by
  intro n
  induction n with
  | zero => intro t h; cases h
  | succ n ih =>
    intro t h
    unfold sm_run at h
    cases hS1 : sm_S C X i t with
    | none => rw [hS1] at h; cases h
    | some q =>
      rw [hS1] at h
      cases q with
      | inr t1 =>
        exact sm_step hx hb hml hown hts hE hX hin hs hR hNf hC hS1 (sm_run_N hG n t1 r h).1 (ih t1 h)
      | inl r1 =>
        obtain rfl := Option.some.inj h
        obtain ⟨pc, ls, st, N, I, L, P⟩ := t
        obtain ⟨o, M⟩ := r1
        obtain ⟨e1, e2⟩ := sm_ret_S hS1
        dsimp only at e1
        subst e1
        intro H locs lsr hk hl hn
        obtain ⟨hK, hP, hS, hN⟩ := hk
        dsimp only at hK hP hS hN e2 ⊢
        rcases e2 with ⟨v, hd, rfl, rfl, hrt⟩ | ⟨v, hd, rfl, rfl, hrt⟩ | ⟨v, hd, rfl, rfl, hrt⟩ | ⟨hd, rfl, rfl, hrt⟩
        · rcases hrt with hrt | ⟨hrt, hv⟩
          · exact W.iret hx hb (by rw [hr, hrt]) (fun t ht hW => ⟨⟨rfl, by rw [ht]; exact hP⟩, hS.F ht⟩) hS.2.2 hd hlocks
          · exact W.zret hx hb (by rw [hr, hrt]) (by show Value.int (v &&& 1) = _; rw [hv]) (fun t ht hW => ⟨⟨rfl, by rw [ht]; exact hP⟩, hS.F ht⟩) hS.2.2 hd hlocks
        · exact W.lret hx hb (by rw [hr, hrt]) (fun t ht hW => ⟨⟨rfl, by rw [ht]; exact hP⟩, hS.F ht⟩) hS.2.2 hd hlocks
        · refine W.aret (v := sm_cv (sm_rho base tL tG bS) (va_rf v)) hx hb (by rw [hr, hrt]) (Or.inl ⟨_, rfl⟩) ?_ (fun t ht hW => ⟨⟨rfl, by rw [ht]; exact hP⟩, hS.F ht⟩) hS.2.2 hd hlocks
          cases v with
          | none => exact Or.inl rfl
          | some a => exact Or.inr ⟨_, rfl⟩
        · exact W.vret hx hb (by rw [hr, hrt]) (fun t ht hW => ⟨⟨rfl, by rw [ht]; exact hP⟩, hS.F ht⟩) hS.2.2 hd hlocks
theorem sm_ent_len (ρ : Nat → Nat) : ∀ as : List Value, (lg_sl (as.map (sm_cv ρ))).length = (sm_ent as).length := by
  intro as
  induction as with
  | nil => rfl
  | cons v t ih =>
    have e : lg_sl ((v :: t).map (sm_cv ρ)) = (if (sm_cv ρ v).category = 2 then [Slot.val (sm_cv ρ v), .second] else [Slot.val (sm_cv ρ v)]) ++ lg_sl (t.map (sm_cv ρ)) := by simp [lg_sl]
    rw [e, sm_cv_cat]
    cases v <;> simp [sm_ent, Value.category, ih] <;> omega
theorem sm_ent_get (ρ : Nat → Nat) : ∀ (as : List Value) (k : Nat) (v : Value), (sm_ent as)[k]? = some (some v) → (lg_sl (as.map (sm_cv ρ)))[k]? = some (.val (sm_cv ρ v)) := by
  intro as
  induction as with
  | nil => intro k v h; simp [sm_ent] at h
  | cons w t ih =>
    intro k v h
    have e : lg_sl ((w :: t).map (sm_cv ρ)) = (if (sm_cv ρ w).category = 2 then [Slot.val (sm_cv ρ w), .second] else [Slot.val (sm_cv ρ w)]) ++ lg_sl (t.map (sm_cv ρ)) := by simp [lg_sl]
    rw [e, sm_cv_cat]
    cases w with
    | long x =>
      match k, h with
      | 0, h => simp [sm_ent] at h; subst h; rfl
      | 1, h => simp [sm_ent] at h
      | k + 2, h => simp only [sm_ent, List.getElem?_cons_succ] at h; exact ih k v h
    | double x =>
      match k, h with
      | 0, h => simp [sm_ent] at h; subst h; rfl
      | 1, h => simp [sm_ent] at h
      | k + 2, h => simp only [sm_ent, List.getElem?_cons_succ] at h; exact ih k v h
    | _ =>
      match k, h with
      | 0, h => simp [sm_ent] at h; subst h; rfl
      | k + 1, h => simp only [sm_ent, List.getElem?_cons_succ] at h; exact ih k v h
theorem sm_lh_ent (ρ : Nat → Nat) {j : Nat} {as : List Value} (h : (sm_ent as).length ≤ sm_ml j) : sm_lh ρ ((lg_sl (as.map (sm_cv ρ)) ++ List.replicate (sm_ml j - (lg_sl (as.map (sm_cv ρ))).length) Slot.unset).toArray) (sm_ml j) (sm_lsl j as) := by
  have hl := lv_entry (as.map (sm_cv ρ)) (n := sm_ml j) (by rw [sm_ent_len]; exact h)
  refine ⟨hl.1, hl.2.1, fun k v hk => ?_⟩
  unfold sm_lsl at hk
  rw [List.getElem?_toArray]
  by_cases hlt : k < (sm_ent as).length
  · rw [List.getElem?_append_left hlt] at hk
    rw [List.getElem?_append_left (by rw [sm_ent_len]; exact hlt)]
    exact sm_ent_get ρ as k v hk
  · rw [List.getElem?_append_right (by omega), List.getElem?_replicate] at hk
    split at hk <;> cases hk
theorem sm_met (l : Launch) (D : va_G) (cyI cyB : ClassId) (base tL tG bS : Nat) : ∀ d, sm_CM l D cyI cyB base tL tG bS d (sm_ex d) := by
  intro d
  induction d with
  | zero => intro j as N I L P r hj h hN; cases h
  | succ d ih =>
    intro j as N I L P r hj h hN
    have hg := sm_ex_N (d + 1) j as N I L P r h
    refine ⟨hg.1, hg.2 hN, ?_⟩
    obtain ⟨hlen, h⟩ := sm_if h
    obtain ⟨n, hn⟩ := sm_lim_iff.mp h
    obtain ⟨f1, -, -, -, f5, f6, f7, f8, f9⟩ := sm_m_facts hj
    refine va_MetF (cc := sm_b j) (maxL := sm_ml j) (ret := sm_rt j) f7 rfl ?_
    intro p e s m args below meth c s₁ B hml hv
    obtain ⟨rfl, hsz, hP, hK, hE, hN2⟩ := hv
    have hts0 := atoms_spec (ws := sm_ws j) B.pre
    have hts : ∀ w ∈ sm_W, w.before (as.map (sm_cv (sm_rho base tL tG bS))).toArray s = true := fun w hw => hts0 w (List.mem_cons_of_mem _ hw)
    have hown : s.vm.findClass (sm_y j).cls = some m.cls := findClass_of_methodNamed B.named
    rw [f6] at hown
    rw [lg_entry_eq]
    have key := sm_runs (R := sm_rm (d + 1) N r.2.1) (X := none) (i := j) (N0 := N) (below := below) (e := e) (p := p) (d := d) (hx := B.exec) (hb := B.bytes) (hml := hml) (hr := B.returns) (hlocks := B.notSynchronized) (hown := hown) (hts := hts) (hE := hE) (hX := fun q hq => by cases hq) (hin := fun q => ((name_of_methodNamed B.named B.method).1).trans (f9 q).1) (hs := hsz) (hR := ⟨Nat.le_refl _, Nat.le_refl _⟩) (hG := sm_ex_N d) (hC := ih) r ⟨Nat.le_refl _, Nat.le_refl _⟩ n _ hn s.heap [] _ ⟨hK, hP, va_S.rf, hN⟩ (sm_lh_ent (sm_rho base tL tG bS) hlen) (Nat.le_refl N)
    dsimp only at key
    rw [Nat.sub_self, Nat.sub_self] at key
    exact key
end SME
end
section
/-! ONE STEP OF THE SMALL MACHINE AS AN EQUATION -/
def sm_al (a : Nat) : Nat := match sm_lay a with
  | .inr (.inl n) => n
  | _ => 0
theorem sm_al_le (a : Nat) : sm_al a ≤ 1000 := by
  by_cases h : a < 81
  · have : (List.range 81).all (fun a => decide (sm_al a ≤ 1000)) = true := by decide +kernel
    exact of_decide_eq_true (List.all_eq_true.mp this a (List.mem_range.mpr h))
  · unfold sm_al sm_lay
    rw [List.getD_eq_getElem?_getD, List.getElem?_eq_none (by show 81 ≤ a; omega)]
    decide
theorem sm_al_lay {a k : Nat} (h : k < sm_al a) : sm_lay a = .inr (.inl (sm_al a)) := by
  unfold sm_al at h ⊢
  split
  · assumption
  · rename_i h2
    revert h
    split
    · rename_i n h3
      exact absurd h3 (h2 n)
    · intro h; omega
noncomputable def sm_af (C : sm_Cf) (X : sm_Xs) (i pc : Nat) (ls : List (Option Value)) (st : List Value) (o : Option sm_Rs) : Option sm_Rs := match o with
  | none => none
  | some r => sm_at C X i pc ls (r.1.toList ++ st) r.2.1 r.2.2.1 r.2.2.2.1 r.2.2.2.2
section STT
variable {C : sm_Cf} {X : sm_Xs} {i pc : Nat} {cc : ByteArray} {ls ls1 : List (Option Value)} {st st1 : List Value} {N N1 : Nat} {I I1 : sm_Im} {L L1 : sm_Lm} {P P1 : sm_Pm} {ins : Instr} {len : Nat}
theorem af_v {v : Value} : sm_af C X i pc ls st (some (some v, N, I, L, P)) = sm_at C X i pc ls (v :: st) N I L P := rfl
theorem af_0 : sm_af C X i pc ls st (some (none, N, I, L, P)) = sm_at C X i pc ls st N I L P := rfl
theorem st_S (hb : sm_b i = cc) (hd : decode cc pc = .ok (ins, len)) (hl : sm_len ins = 0 ∨ sm_len ins = len) : sm_S C X i (pc, ls, st, N, I, L, P) = sm_X C X i ins pc ls st N I L P := by
  unfold sm_S
  rw [hb]
  dsimp only
  rw [hd]
  dsimp only
  rw [if_pos hl]
theorem st_go {pc1 : Nat} (hb : sm_b i = cc) (hd : decode cc pc = .ok (ins, len)) (hl : sm_len ins = 0 ∨ sm_len ins = len) (hX : sm_X C X i ins pc ls st N I L P = some (.inr (pc1, ls1, st1, N1, I1, L1, P1))) : sm_at C X i pc ls st N I L P = sm_at C X i pc1 ls1 st1 N1 I1 L1 P1 :=
  sm_lim_next ((st_S hb hd hl).trans hX)
theorem st_br {c : Prop} [hc : Decidable c] {pa pb : Nat} (hb : sm_b i = cc) (hd : decode cc pc = .ok (ins, len)) (hl : sm_len ins = 0 ∨ sm_len ins = len) (hX : sm_X C X i ins pc ls st N I L P = some (.inr (bif decide c then pa else pb, ls1, st1, N1, I1, L1, P1))) : sm_at C X i pc ls st N I L P = if c then sm_at C X i pa ls1 st1 N1 I1 L1 P1 else sm_at C X i pb ls1 st1 N1 I1 L1 P1 := by
  rw [st_go hb hd hl hX]
  by_cases h : c
  · rw [if_pos h, decide_eq_true h]; rfl
  · rw [if_neg h, decide_eq_false h]; rfl
theorem st_ret {r : sm_Rs} (hb : sm_b i = cc) (hd : decode cc pc = .ok (ins, len)) (hl : sm_len ins = 0 ∨ sm_len ins = len) (hX : sm_X C X i ins pc ls st N I L P = some (.inl r)) : sm_at C X i pc ls st N I L P = some r := sm_lim_ret ((st_S hb hd hl).trans hX)
theorem st_b01 {x : Int32} (h : x = 0 ∨ x = 1) : x &&& 1 = x := by rcases h with rfl | rfl <;> decide
theorem st_in {k n : Nat} (h : k < n) (hn : n ≤ 1000) : ¬ (nI k < 0 ∨ n ≤ (nI k).toNatClampNeg) := vp_in_nI h (by omega)
theorem st_iald {a k : Nat} (hb : sm_b i = cc) (hd : decode cc pc = .ok (.iaload, 1)) (h : a < N) (h1 : k < sm_al a) : sm_at C X i pc ls (.int (nI k) :: .ref a :: st) N I L P = sm_at C X i (pc + 1) ls (.int (I a k) :: st) N I L P := by
  refine st_go hb hd (Or.inr rfl) ?_
  unfold sm_X
  dsimp only
  rw [if_pos h, sm_al_lay h1]
  dsimp only
  have := sm_al_le a
  rw [if_pos (st_in h1 this), nI_clamp (by omega)]
  rfl
theorem st_iast {a k : Nat} {v : Int32} (hb : sm_b i = cc) (hd : decode cc pc = .ok (.iastore, 1)) (h : a < N) (h1 : k < sm_al a) : sm_at C X i pc ls (.int v :: .int (nI k) :: .ref a :: st) N I L P = sm_at C X i (pc + 1) ls st N (sm_up I a k v) L P := by
  refine st_go hb hd (Or.inr rfl) ?_
  unfold sm_X
  dsimp only
  rw [if_pos h, sm_al_lay h1]
  dsimp only
  have := sm_al_le a
  rw [if_pos (st_in h1 this), nI_clamp (by omega)]
  rfl
theorem st_iat0 {k : Nat} (hb : sm_b i = cc) (hd : decode cc pc = .ok (.iaload, 1)) (h : N ≤ 1000) (h1 : k < 15) : sm_at C X i pc ls (.int (nI k) :: .ref 1048576 :: st) N I L P = sm_at C X i (pc + 1) ls (.int (sm_tab 0 k) :: st) N I L P := by
  refine st_go hb hd (Or.inr rfl) ?_
  unfold sm_X
  dsimp only
  rw [if_neg (show ¬ 1048576 < N by omega), if_pos (Or.inl rfl), if_pos (st_in h1 (by decide)), nI_clamp (by omega)]
  rfl
theorem st_iat1 {k : Nat} (hb : sm_b i = cc) (hd : decode cc pc = .ok (.iaload, 1)) (h : N ≤ 1000) (h1 : k < 15) : sm_at C X i pc ls (.int (nI k) :: .ref 1048577 :: st) N I L P = sm_at C X i (pc + 1) ls (.int (sm_tab 1 k) :: st) N I L P := by
  refine st_go hb hd (Or.inr rfl) ?_
  unfold sm_X
  dsimp only
  rw [if_neg (show ¬ 1048577 < N by omega), if_pos (Or.inr rfl), if_pos (st_in h1 (by decide)), nI_clamp (by omega)]
  rfl
theorem st_ialx {k n : Nat} {f : Nat → Int32} (hb : sm_b i = cc) (hd : decode cc pc = .ok (.iaload, 1)) (h : N ≤ 1000) (h1 : k < n) (h2 : n < 1000) : sm_at C (some (n, f)) i pc ls (.int (nI k) :: .ref 1048578 :: st) N I L P = sm_at C (some (n, f)) i (pc + 1) ls (.int (f k) :: st) N I L P := by
  refine st_go hb hd (Or.inr rfl) ?_
  unfold sm_X
  dsimp only
  rw [if_neg (show ¬ 1048578 < N by omega), if_neg (by decide), if_pos rfl, if_pos (st_in h1 (by omega)), nI_clamp (by omega)]
  rfl
theorem st_aald {a k : Nat} (hb : sm_b i = cc) (hd : decode cc pc = .ok (.aaload, 1)) (h : a < N) (h1 : sm_lay a = .inr (.inr 5)) (h2 : k < 5) : sm_at C X i pc ls (.int (nI k) :: .ref a :: st) N I L P = sm_at C X i (pc + 1) ls (va_rf (P a k) :: st) N I L P := by
  refine st_go hb hd (Or.inr rfl) ?_
  unfold sm_X
  dsimp only
  rw [if_pos h, h1]
  dsimp only
  rw [if_pos (st_in h2 (by decide)), nI_clamp (by omega)]
  rfl
theorem st_aast {a a2 k : Nat} (hb : sm_b i = cc) (hd : decode cc pc = .ok (.aastore, 1)) (h : a < N) (h1 : sm_lay a = .inr (.inr 5)) (h2 : k < 5) (h3 : a2 < N) (h4 : sm_lay a2 = .inl 0) : sm_at C X i pc ls (.ref a2 :: .int (nI k) :: .ref a :: st) N I L P = sm_at C X i (pc + 1) ls st N I L (sm_up P a k (some a2)) := by
  refine st_go hb hd (Or.inr rfl) ?_
  unfold sm_X
  dsimp only
  rw [if_pos ⟨h, h3, h4⟩, h1]
  dsimp only
  rw [if_pos (st_in h2 (by decide)), nI_clamp (by omega)]
  rfl
theorem st_alen {a k : Nat} (hb : sm_b i = cc) (hd : decode cc pc = .ok (.arraylength, 1)) (h : a < N) (h1 : sm_lay a = .inr (.inl k)) : sm_at C X i pc ls (.ref a :: st) N I L P = sm_at C X i (pc + 1) ls (.int (nI k) :: st) N I L P := by
  refine st_go hb hd (Or.inr rfl) ?_
  unfold sm_X
  dsimp only
  rw [if_pos h, h1]
  rfl
theorem st_alex {n : Nat} {f : Nat → Int32} (hb : sm_b i = cc) (hd : decode cc pc = .ok (.arraylength, 1)) (h : N ≤ 1000) : sm_at C (some (n, f)) i pc ls (.ref 1048578 :: st) N I L P = sm_at C (some (n, f)) i (pc + 1) ls (.int (nI n) :: st) N I L P := by
  refine st_go hb hd (Or.inr rfl) ?_
  unfold sm_X
  dsimp only
  rw [if_neg (show ¬ 1048578 < N by omega), if_pos rfl]
  rfl
theorem st_newa {k : Nat} (hb : sm_b i = cc) (hd : decode cc pc = .ok (.newarray .int, 2)) (h : N < 81) (h1 : sm_lay N = .inr (.inl k)) (h2 : k < 1000) : sm_at C X i pc ls (.int (nI k) :: st) N I L P = sm_at C X i (pc + 2) ls (.ref N :: st) (N + 1) (sm_z I N 0) L P := by
  refine st_go hb hd (Or.inr rfl) ?_
  unfold sm_X sm_p1
  dsimp only
  rw [if_pos ⟨nI_pos (by omega), h, by rw [nI_clamp (by omega)]; exact h1⟩]
  rfl
theorem st_anew {k x z : Nat} (hb : sm_b i = cc) (hd : decode cc pc = .ok (.anewarray x, 3)) (hf : sm_nw (sm_o i) x = some (0, z)) (h : N < 81) (h1 : sm_lay N = .inr (.inr k)) (h2 : k < 1000) : sm_at C X i pc ls (.int (nI k) :: st) N I L P = sm_at C X i (pc + 3) ls (.ref N :: st) (N + 1) I L (sm_z P N none) := by
  refine st_go hb hd (Or.inr rfl) ?_
  unfold sm_X sm_p1
  dsimp only
  rw [hf]
  dsimp only
  rw [if_pos ⟨nI_pos (by omega), h, by rw [nI_clamp (by omega)]; exact h1, rfl⟩]
  rfl
theorem st_af {j n : Nat} {full args rest : List Value} (h : decide (n ≤ full.length ∧ (full.drop n).length ≤ 4) = true) (ha : (full.take n).reverse = args) (hr : full.drop n = rest) {t : Option sm_Rs} (hS : sm_S C X i (pc, ls, full, N, I, L, P) = sm_iv C j n pc ls full N I L P) : sm_at C X i pc ls full N I L P = sm_af C X i (pc + 3) ls rest (C j args N I L P) := by
  have hiv : sm_iv C j n pc ls full N I L P = match C j args N I L P with
      | some r => some (.inr (pc + 3, ls, r.1.toList ++ rest, r.2.1, r.2.2.1, r.2.2.2.1, r.2.2.2.2))
      | none => none := by
    unfold sm_iv
    rw [if_pos (of_decide_eq_true h), ha, hr]
    cases C j args N I L P <;> rfl
  cases hc : C j args N I L P with
  | none =>
    rw [hc] at hiv
    show sm_lim C X i _ = none
    unfold sm_lim
    rw [dif_neg]
    rintro ⟨r, n, hn⟩
    cases n with
    | zero => cases hn
    | succ n =>
      unfold sm_run at hn
      rw [hS, hiv] at hn
      cases hn
  | some r =>
    rw [hc] at hiv
    exact sm_lim_next (hS.trans hiv)
theorem st_stat {x j z k n : Nat} {full args rest : List Value} (hb : sm_b i = cc) (hd : decode cc pc = .ok (.invokestatic x, 3)) (hf : sm_cal (sm_o i) x = some (j, z, k)) (hk : sm_kd j = 0) (hn : sm_np j = n) (h : decide (n ≤ full.length ∧ (full.drop n).length ≤ 4) = true) (ha : (full.take n).reverse = args) (hr : full.drop n = rest) : sm_at C X i pc ls full N I L P = sm_af C X i (pc + 3) ls rest (C j args N I L P) := by
  refine st_af (t := none) h ha hr ((st_S hb hd (Or.inr rfl)).trans ?_)
  unfold sm_X
  dsimp only
  rw [hf]
  dsimp only
  rw [if_pos hk, hn]
theorem st_virt {x j z n a c0 : Nat} {full args rest : List Value} (hb : sm_b i = cc) (hd : decode cc pc = .ok (.invokevirtual x, 3)) (hf : sm_cal (sm_o i) x = some (j, z, 0)) (hk : sm_kd j = 1) (hn : sm_np j + 1 = n) (ho : sm_o j = c0) (hrec : full[sm_np j]? = some (.ref a)) (h : decide (n ≤ full.length ∧ (full.drop n).length ≤ 4) = true) (har : ((full.take n).reverse, full.drop n) = (args, rest)) (h1 : a < N) (h2 : sm_lay a = .inl c0) : sm_at C X i pc ls full N I L P = sm_af C X i (pc + 3) ls rest (C j args N I L P) := by
  refine st_af (t := none) h (congrArg Prod.fst har) (congrArg Prod.snd har) ((st_S hb hd (Or.inr rfl)).trans ?_)
  unfold sm_X
  dsimp only
  rw [hf]
  dsimp only
  rw [if_pos ⟨⟨hk, rfl⟩, by rw [hrec, ho]; show (decide (a < N) && decide (sm_lay a = .inl c0)) = true; rw [decide_eq_true h1, decide_eq_true h2]; rfl⟩, hn]
theorem st_spec {x j z k n a c0 : Nat} {full args rest : List Value} (hb : sm_b i = cc) (hd : decode cc pc = .ok (.invokespecial x, 3)) (hf : sm_cal (sm_o i) x = some (j, z, k)) (hk : sm_kd j = 2) (hn : sm_np j + 1 = n) (ho : sm_o j = c0) (hrec : full[sm_np j]? = some (.ref a)) (h : decide (n ≤ full.length ∧ (full.drop n).length ≤ 4) = true) (har : ((full.take n).reverse, full.drop n) = (args, rest)) (h1 : a < N) (h2 : sm_lay a = .inl c0) : sm_at C X i pc ls full N I L P = sm_af C X i (pc + 3) ls rest (C j args N I L P) := by
  refine st_af (t := none) h (congrArg Prod.fst har) (congrArg Prod.snd har) ((st_S hb hd (Or.inr rfl)).trans ?_)
  unfold sm_X
  dsimp only
  rw [hf]
  dsimp only
  rw [if_pos ⟨hk, by rw [hrec, ho]; show (decide (a < N) && decide (sm_lay a = .inl c0)) = true; rw [decide_eq_true h1, decide_eq_true h2]; rfl⟩, hn]
theorem st_copy {x z a a2 k : Nat} (hb : sm_b i = cc) (hd : decode cc pc = .ok (.invokestatic x, 3)) (hf : sm_cal (sm_o i) x = none) (hf2 : sm_ac (sm_o i) x = some z) (h : a < N) (h1 : a2 < N) (h2 : k ≤ sm_al a) (h3 : k ≤ sm_al a2) (hk : 0 < k) : sm_at C X i pc ls [.int (nI k), .int (nI 0), .ref a, .int (nI 0), .ref a2] N I L P = sm_at C X i (pc + 3) ls [] N (sm_row I a (va_cpy (I a2) (I a) 0 0 k)) L P := by
  refine st_go hb hd (Or.inr rfl) ?_
  unfold sm_X
  dsimp only
  rw [hf]
  dsimp only
  rw [hf2]
  dsimp only
  have q1 := sm_al_le a
  rw [if_pos ⟨⟨h, h1, by decide⟩, by decide, by decide, nI_pos (by omega)⟩, sm_al_lay (show 0 < sm_al a2 by omega), sm_al_lay (show 0 < sm_al a by omega)]
  dsimp only
  rw [nI_clamp (show k < 2 ^ 31 by omega), show (nI 0).toNatClampNeg = 0 from rfl, if_pos ⟨by omega, by omega⟩]
  rfl
theorem st_iret {x0 : Int32} (hb : sm_b i = cc) (hd : decode cc pc = .ok (.ireturn, 1)) (hrt : sm_rt i = some .int) : sm_at C X i pc ls [.int x0] N I L P = some (some (.int x0), N, I, L, P) := by
  refine st_ret hb hd (Or.inr rfl) ?_
  unfold sm_X
  dsimp only
  rw [if_pos (Or.inl hrt)]
theorem st_zret {x0 : Int32} (hb : sm_b i = cc) (hd : decode cc pc = .ok (.ireturn, 1)) (hrt : sm_rt i = some .boolean) (h : x0 = 0 ∨ x0 = 1) : sm_at C X i pc ls [.int x0] N I L P = some (some (.int x0), N, I, L, P) := by
  refine st_ret hb hd (Or.inr rfl) ?_
  unfold sm_X
  dsimp only
  rw [if_pos (Or.inr ⟨hrt, st_b01 h⟩)]
theorem st_gfI {x c k z a : Nat} (hb : sm_b i = cc) (hd : decode cc pc = .ok (.getfield x, 3)) (hf : sm_fld (sm_o i) x = some (c, k, z)) (hk : Nat.ble (sm_fk c k) 1 = true) (h : a < N) (h1 : sm_lay a = .inl c) : sm_at C X i pc ls (.ref a :: st) N I L P = sm_at C X i (pc + 3) ls (.int (I a k) :: st) N I L P := by
  refine st_go hb hd (Or.inr rfl) ?_
  unfold sm_X
  dsimp only
  rw [hf]
  dsimp only
  rw [if_pos ⟨h, h1⟩]
  unfold sm_fv
  rw [if_pos (Nat.le_of_ble_eq_true hk)]
  rfl
theorem st_gfL {x c k z a : Nat} (hb : sm_b i = cc) (hd : decode cc pc = .ok (.getfield x, 3)) (hf : sm_fld (sm_o i) x = some (c, k, z)) (hk : sm_fk c k = 2) (h : a < N) (h1 : sm_lay a = .inl c) : sm_at C X i pc ls (.ref a :: st) N I L P = sm_at C X i (pc + 3) ls (.long (L a k) :: st) N I L P := by
  refine st_go hb hd (Or.inr rfl) ?_
  unfold sm_X
  dsimp only
  rw [hf]
  dsimp only
  rw [if_pos ⟨h, h1⟩]
  unfold sm_fv
  rw [if_neg (by omega), if_pos hk]
  rfl
theorem st_gfR {x c k z a : Nat} (hb : sm_b i = cc) (hd : decode cc pc = .ok (.getfield x, 3)) (hf : sm_fld (sm_o i) x = some (c, k, z)) (hk : sm_fk c k = 3) (h : a < N) (h1 : sm_lay a = .inl c) : sm_at C X i pc ls (.ref a :: st) N I L P = sm_at C X i (pc + 3) ls (va_rf (P a k) :: st) N I L P := by
  refine st_go hb hd (Or.inr rfl) ?_
  unfold sm_X
  dsimp only
  rw [hf]
  dsimp only
  rw [if_pos ⟨h, h1⟩]
  unfold sm_fv
  rw [if_neg (by omega), if_neg (by omega)]
  rfl
theorem st_pfI {x c k z a : Nat} {v : Int32} (hb : sm_b i = cc) (hd : decode cc pc = .ok (.putfield x, 3)) (hf : sm_fld (sm_o i) x = some (c, k, z)) (hk : sm_fk c k = 0) (hff : sm_ff c k = false) (h : a < N) (h1 : sm_lay a = .inl c) : sm_at C X i pc ls (.int v :: .ref a :: st) N I L P = sm_at C X i (pc + 3) ls st N (sm_up I a k v) L P := by
  refine st_go hb hd (Or.inr rfl) ?_
  unfold sm_X
  dsimp only
  rw [hf]
  dsimp only
  rw [if_pos ⟨⟨h, h1⟩, Or.inl hk, hff⟩]
  rfl
theorem st_pfB {x c k z a : Nat} {v : Int32} (hb : sm_b i = cc) (hd : decode cc pc = .ok (.putfield x, 3)) (hf : sm_fld (sm_o i) x = some (c, k, z)) (hk : sm_fk c k = 1) (hff : sm_ff c k = false) (h : a < N) (h1 : sm_lay a = .inl c) (h2 : v = 0 ∨ v = 1) : sm_at C X i pc ls (.int v :: .ref a :: st) N I L P = sm_at C X i (pc + 3) ls st N (sm_up I a k v) L P := by
  refine st_go hb hd (Or.inr rfl) ?_
  unfold sm_X
  dsimp only
  rw [hf]
  dsimp only
  rw [if_pos ⟨⟨h, h1⟩, Or.inr ⟨hk, h2⟩, hff⟩]
  rfl
theorem st_pfL {x c k z a : Nat} {v : Int64} (hb : sm_b i = cc) (hd : decode cc pc = .ok (.putfield x, 3)) (hf : sm_fld (sm_o i) x = some (c, k, z)) (hk : sm_fk c k = 2) (hff : sm_ff c k = false) (h : a < N) (h1 : sm_lay a = .inl c) : sm_at C X i pc ls (.long v :: .ref a :: st) N I L P = sm_at C X i (pc + 3) ls st N I (sm_up L a k v) P := by
  refine st_go hb hd (Or.inr rfl) ?_
  unfold sm_X
  dsimp only
  rw [hf]
  dsimp only
  rw [if_pos ⟨⟨h, h1⟩, hk, hff⟩]
  rfl
theorem st_pfR {x c k z a v : Nat} (hb : sm_b i = cc) (hd : decode cc pc = .ok (.putfield x, 3)) (hf : sm_fld (sm_o i) x = some (c, k, z)) (hk : sm_fk c k = 3) (hff : sm_ff c k = false ∨ (sm_kd i = 2 ∧ sm_o i = c)) (h : a < N) (h1 : sm_lay a = .inl c) : sm_at C X i pc ls (.ref v :: .ref a :: st) N I L P = sm_at C X i (pc + 3) ls st N I L (sm_up P a k (some v)) := by
  refine st_go hb hd (Or.inr rfl) ?_
  unfold sm_X
  dsimp only
  rw [hf]
  dsimp only
  rw [if_pos ⟨⟨h, h1⟩, hk, hff⟩]
  rfl
theorem st_new {x k z : Nat} (hb : sm_b i = cc) (hd : decode cc pc = .ok (.new x, 3)) (hf : sm_nw (sm_o i) x = some (k, z)) (h : N < 81) (h1 : sm_lay N = .inl k) : sm_at C X i pc ls st N I L P = sm_at C X i (pc + 3) ls (.ref N :: st) (N + 1) (sm_z I N 0) (sm_z L N 0) (sm_z P N none) := by
  refine st_go hb hd (Or.inr rfl) ?_
  unfold sm_X
  dsimp only
  rw [hf]
  dsimp only
  rw [if_pos ⟨h, h1⟩]
  rfl
theorem st_idiv {x0 x1 : Int32} (hb : sm_b i = cc) (hd : decode cc pc = .ok (.idiv, 1)) (h : ¬ x0 = 0) : sm_at C X i pc ls (.int x0 :: .int x1 :: st) N I L P = sm_at C X i (pc + 1) ls (.int (x1 / x0) :: st) N I L P := by
  refine st_go hb hd (Or.inr rfl) ?_
  unfold sm_X sm_p2
  dsimp only
  rw [if_neg h]
  rfl
theorem st_irem {x0 x1 : Int32} (hb : sm_b i = cc) (hd : decode cc pc = .ok (.irem, 1)) (h : ¬ x0 = 0) : sm_at C X i pc ls (.int x0 :: .int x1 :: st) N I L P = sm_at C X i (pc + 1) ls (.int (x1 - x1 / x0 * x0) :: st) N I L P := by
  refine st_go hb hd (Or.inr rfl) ?_
  unfold sm_X sm_p2
  dsimp only
  rw [if_neg h]
  rfl
theorem st_ldiv {x0 x1 : Int64} (hb : sm_b i = cc) (hd : decode cc pc = .ok (.ldiv, 1)) (h : ¬ x0 = 0) : sm_at C X i pc ls (.long x0 :: .long x1 :: st) N I L P = sm_at C X i (pc + 1) ls (.long (x1 / x0) :: st) N I L P := by
  refine st_go hb hd (Or.inr rfl) ?_
  unfold sm_X sm_q2
  dsimp only
  rw [if_neg h]
  rfl
theorem st_lrem {x0 x1 : Int64} (hb : sm_b i = cc) (hd : decode cc pc = .ok (.lrem, 1)) (h : ¬ x0 = 0) : sm_at C X i pc ls (.long x0 :: .long x1 :: st) N I L P = sm_at C X i (pc + 1) ls (.long (x1 - x1 / x0 * x0) :: st) N I L P := by
  refine st_go hb hd (Or.inr rfl) ?_
  unfold sm_X sm_q2
  dsimp only
  rw [if_neg h]
  rfl
theorem st_tab {x0 : Int32} {dflt lo hi : Int} {offs : Array Int} {len tgt : Nat} (hb : sm_b i = cc) (hd : decode cc pc = .ok (.tableswitch dflt lo hi offs, len)) (ht : decide ((pc : Int) + dflt = tgt) = true) (h : x0.toInt < lo ∨ hi < x0.toInt) : sm_at C X i pc ls (.int x0 :: st) N I L P = sm_at C X i tgt ls st N I L P := by
  refine st_go hb hd (Or.inl rfl) ?_
  have ht := of_decide_eq_true ht
  unfold sm_X sm_p1
  dsimp only
  rw [if_pos h]
  unfold sm_to
  rw [if_pos (by omega), ht]
  rfl
theorem st_lk {x0 : Int32} {dflt off : Int} {ps : Array (Int × Int)} {tgt : Nat} (h : (ps.toList.zip (ps.toList.drop 1)).all (fun (a, next) => a.1 < next.1) = true) (ho : Op.lookupswitch.offset ps.toList dflt x0.toInt = off) (ht : decide ((pc : Int) + off = tgt) = true) : sm_X C X i (.lookupswitch dflt ps) pc ls (.int x0 :: st) N I L P = some (.inr (tgt, ls, st, N, I, L, P)) := by
  have ht := of_decide_eq_true ht
  unfold sm_X sm_p1
  dsimp only
  rw [if_pos h, ho]
  unfold sm_to
  rw [if_pos (by omega), ht]
  rfl
end STT
end
section
section STJ6
variable {C : sm_Cf} {X : sm_Xs} {ls : List (Option Value)} {st : List Value} {N : Nat} {I : sm_Im} {L : sm_Lm} {P : sm_Pm} {x0 x1 x2 : Int32} {z0 z1 : Int64} {a a2 k n : Nat} {f : Nat → Int32} {w0 w1 w2 w3 w4 w5 w6 v0 v1 v2 v3 v4 : Value} {l0 l1 l2 l3 l4 l5 l6 l7 l8 l9 l10 l11 l12 l13 l14 l15 l16 : Option Value}
theorem b213 : sm_b 213 = cJ6_bitCount_0f7a4 := rfl
theorem s213_0 : sm_at C X 213 0 [some (.int x0)] st N I L P = sm_at C X 213 1 [some (.int x0)] (.int x0 :: st) N I L P := st_go b213 dJ6_bitCount_0f7a4_0 (by decide) rfl
theorem s213_1 : sm_at C X 213 1 [some (.int x0)] st N I L P = sm_at C X 213 2 [some (.int x0)] (.int x0 :: st) N I L P := st_go b213 dJ6_bitCount_0f7a4_1 (by decide) rfl
theorem s213_2 : sm_at C X 213 2 ls st N I L P = sm_at C X 213 3 ls (.int (nI 1) :: st) N I L P := st_go b213 dJ6_bitCount_0f7a4_2 (by decide) rfl
theorem s213_3 : sm_at C X 213 3 ls (.int x0 :: .int x1 :: st) N I L P = sm_at C X 213 4 ls (.int (x1.toUInt32 >>> (x0.toUInt32 &&& Int32.toUInt32 31)).toInt32 :: st) N I L P := st_go b213 dJ6_bitCount_0f7a4_3 (by decide) rfl
theorem s213_4 : sm_at C X 213 4 ls st N I L P = sm_at C X 213 7 ls (.int (nI 1431655765) :: st) N I L P := st_go b213 dJ6_bitCount_0f7a4_4 (by decide) rfl
theorem s213_7 : sm_at C X 213 7 ls (.int x0 :: .int x1 :: st) N I L P = sm_at C X 213 8 ls (.int (x1 &&& x0) :: st) N I L P := st_go b213 dJ6_bitCount_0f7a4_7 (by decide) rfl
theorem s213_8 : sm_at C X 213 8 ls (.int x0 :: .int x1 :: st) N I L P = sm_at C X 213 9 ls (.int (x1 - x0) :: st) N I L P := st_go b213 dJ6_bitCount_0f7a4_8 (by decide) rfl
theorem s213_9 : sm_at C X 213 9 [l0] (.int x0 :: st) N I L P = sm_at C X 213 10 [some (.int x0)] st N I L P := st_go b213 dJ6_bitCount_0f7a4_9 (by decide) rfl
theorem s213_10 : sm_at C X 213 10 [some (.int x0)] st N I L P = sm_at C X 213 11 [some (.int x0)] (.int x0 :: st) N I L P := st_go b213 dJ6_bitCount_0f7a4_10 (by decide) rfl
theorem s213_11 : sm_at C X 213 11 ls st N I L P = sm_at C X 213 14 ls (.int (nI 858993459) :: st) N I L P := st_go b213 dJ6_bitCount_0f7a4_11 (by decide) rfl
theorem s213_14 : sm_at C X 213 14 ls (.int x0 :: .int x1 :: st) N I L P = sm_at C X 213 15 ls (.int (x1 &&& x0) :: st) N I L P := st_go b213 dJ6_bitCount_0f7a4_14 (by decide) rfl
theorem s213_15 : sm_at C X 213 15 [some (.int x0)] st N I L P = sm_at C X 213 16 [some (.int x0)] (.int x0 :: st) N I L P := st_go b213 dJ6_bitCount_0f7a4_15 (by decide) rfl
theorem s213_16 : sm_at C X 213 16 ls st N I L P = sm_at C X 213 17 ls (.int (nI 2) :: st) N I L P := st_go b213 dJ6_bitCount_0f7a4_16 (by decide) rfl
theorem s213_17 : sm_at C X 213 17 ls (.int x0 :: .int x1 :: st) N I L P = sm_at C X 213 18 ls (.int (x1.toUInt32 >>> (x0.toUInt32 &&& Int32.toUInt32 31)).toInt32 :: st) N I L P := st_go b213 dJ6_bitCount_0f7a4_17 (by decide) rfl
theorem s213_18 : sm_at C X 213 18 ls st N I L P = sm_at C X 213 21 ls (.int (nI 858993459) :: st) N I L P := st_go b213 dJ6_bitCount_0f7a4_18 (by decide) rfl
theorem s213_21 : sm_at C X 213 21 ls (.int x0 :: .int x1 :: st) N I L P = sm_at C X 213 22 ls (.int (x1 &&& x0) :: st) N I L P := st_go b213 dJ6_bitCount_0f7a4_21 (by decide) rfl
theorem s213_22 : sm_at C X 213 22 ls (.int x0 :: .int x1 :: st) N I L P = sm_at C X 213 23 ls (.int (x1 + x0) :: st) N I L P := st_go b213 dJ6_bitCount_0f7a4_22 (by decide) rfl
theorem s213_23 : sm_at C X 213 23 [l0] (.int x0 :: st) N I L P = sm_at C X 213 24 [some (.int x0)] st N I L P := st_go b213 dJ6_bitCount_0f7a4_23 (by decide) rfl
theorem s213_24 : sm_at C X 213 24 [some (.int x0)] st N I L P = sm_at C X 213 25 [some (.int x0)] (.int x0 :: st) N I L P := st_go b213 dJ6_bitCount_0f7a4_24 (by decide) rfl
theorem s213_25 : sm_at C X 213 25 [some (.int x0)] st N I L P = sm_at C X 213 26 [some (.int x0)] (.int x0 :: st) N I L P := st_go b213 dJ6_bitCount_0f7a4_25 (by decide) rfl
theorem s213_26 : sm_at C X 213 26 ls st N I L P = sm_at C X 213 27 ls (.int (nI 4) :: st) N I L P := st_go b213 dJ6_bitCount_0f7a4_26 (by decide) rfl
theorem s213_27 : sm_at C X 213 27 ls (.int x0 :: .int x1 :: st) N I L P = sm_at C X 213 28 ls (.int (x1.toUInt32 >>> (x0.toUInt32 &&& Int32.toUInt32 31)).toInt32 :: st) N I L P := st_go b213 dJ6_bitCount_0f7a4_27 (by decide) rfl
theorem s213_28 : sm_at C X 213 28 ls (.int x0 :: .int x1 :: st) N I L P = sm_at C X 213 29 ls (.int (x1 + x0) :: st) N I L P := st_go b213 dJ6_bitCount_0f7a4_28 (by decide) rfl
theorem s213_29 : sm_at C X 213 29 ls st N I L P = sm_at C X 213 32 ls (.int (nI 252645135) :: st) N I L P := st_go b213 dJ6_bitCount_0f7a4_29 (by decide) rfl
theorem s213_32 : sm_at C X 213 32 ls (.int x0 :: .int x1 :: st) N I L P = sm_at C X 213 33 ls (.int (x1 &&& x0) :: st) N I L P := st_go b213 dJ6_bitCount_0f7a4_32 (by decide) rfl
theorem s213_33 : sm_at C X 213 33 [l0] (.int x0 :: st) N I L P = sm_at C X 213 34 [some (.int x0)] st N I L P := st_go b213 dJ6_bitCount_0f7a4_33 (by decide) rfl
theorem s213_34 : sm_at C X 213 34 [some (.int x0)] st N I L P = sm_at C X 213 35 [some (.int x0)] (.int x0 :: st) N I L P := st_go b213 dJ6_bitCount_0f7a4_34 (by decide) rfl
theorem s213_35 : sm_at C X 213 35 [some (.int x0)] st N I L P = sm_at C X 213 36 [some (.int x0)] (.int x0 :: st) N I L P := st_go b213 dJ6_bitCount_0f7a4_35 (by decide) rfl
theorem s213_36 : sm_at C X 213 36 ls st N I L P = sm_at C X 213 38 ls (.int (nI 8) :: st) N I L P := st_go b213 dJ6_bitCount_0f7a4_36 (by decide) rfl
theorem s213_38 : sm_at C X 213 38 ls (.int x0 :: .int x1 :: st) N I L P = sm_at C X 213 39 ls (.int (x1.toUInt32 >>> (x0.toUInt32 &&& Int32.toUInt32 31)).toInt32 :: st) N I L P := st_go b213 dJ6_bitCount_0f7a4_38 (by decide) rfl
theorem s213_39 : sm_at C X 213 39 ls (.int x0 :: .int x1 :: st) N I L P = sm_at C X 213 40 ls (.int (x1 + x0) :: st) N I L P := st_go b213 dJ6_bitCount_0f7a4_39 (by decide) rfl
theorem s213_40 : sm_at C X 213 40 [l0] (.int x0 :: st) N I L P = sm_at C X 213 41 [some (.int x0)] st N I L P := st_go b213 dJ6_bitCount_0f7a4_40 (by decide) rfl
theorem s213_41 : sm_at C X 213 41 [some (.int x0)] st N I L P = sm_at C X 213 42 [some (.int x0)] (.int x0 :: st) N I L P := st_go b213 dJ6_bitCount_0f7a4_41 (by decide) rfl
theorem s213_42 : sm_at C X 213 42 [some (.int x0)] st N I L P = sm_at C X 213 43 [some (.int x0)] (.int x0 :: st) N I L P := st_go b213 dJ6_bitCount_0f7a4_42 (by decide) rfl
theorem s213_43 : sm_at C X 213 43 ls st N I L P = sm_at C X 213 45 ls (.int (nI 16) :: st) N I L P := st_go b213 dJ6_bitCount_0f7a4_43 (by decide) rfl
theorem s213_45 : sm_at C X 213 45 ls (.int x0 :: .int x1 :: st) N I L P = sm_at C X 213 46 ls (.int (x1.toUInt32 >>> (x0.toUInt32 &&& Int32.toUInt32 31)).toInt32 :: st) N I L P := st_go b213 dJ6_bitCount_0f7a4_45 (by decide) rfl
theorem s213_46 : sm_at C X 213 46 ls (.int x0 :: .int x1 :: st) N I L P = sm_at C X 213 47 ls (.int (x1 + x0) :: st) N I L P := st_go b213 dJ6_bitCount_0f7a4_46 (by decide) rfl
theorem s213_47 : sm_at C X 213 47 [l0] (.int x0 :: st) N I L P = sm_at C X 213 48 [some (.int x0)] st N I L P := st_go b213 dJ6_bitCount_0f7a4_47 (by decide) rfl
theorem s213_48 : sm_at C X 213 48 [some (.int x0)] st N I L P = sm_at C X 213 49 [some (.int x0)] (.int x0 :: st) N I L P := st_go b213 dJ6_bitCount_0f7a4_48 (by decide) rfl
theorem s213_49 : sm_at C X 213 49 ls st N I L P = sm_at C X 213 51 ls (.int (nI 63) :: st) N I L P := st_go b213 dJ6_bitCount_0f7a4_49 (by decide) rfl
theorem s213_51 : sm_at C X 213 51 ls (.int x0 :: .int x1 :: st) N I L P = sm_at C X 213 52 ls (.int (x1 &&& x0) :: st) N I L P := st_go b213 dJ6_bitCount_0f7a4_51 (by decide) rfl
theorem s213_52 : sm_at C X 213 52 ls [.int x0] N I L P = some (some (.int x0), N, I, L, P) := st_iret b213 dJ6_bitCount_0f7a4_52 rfl
end STJ6
end
section
section STJ9
variable {C : sm_Cf} {X : sm_Xs} {ls : List (Option Value)} {st : List Value} {N : Nat} {I : sm_Im} {L : sm_Lm} {P : sm_Pm} {x0 x1 x2 : Int32} {z0 z1 : Int64} {a a2 k n : Nat} {f : Nat → Int32} {w0 w1 w2 w3 w4 w5 w6 v0 v1 v2 v3 v4 : Value} {l0 l1 l2 l3 l4 l5 l6 l7 l8 l9 l10 l11 l12 l13 l14 l15 l16 : Option Value}
theorem b214 : sm_b 214 = cJ9_min_7cf53 := rfl
theorem s214_0 : sm_at C X 214 0 [some (.int x0), l1] st N I L P = sm_at C X 214 1 [some (.int x0), l1] (.int x0 :: st) N I L P := st_go b214 dJ9_min_7cf53_0 (by decide) rfl
theorem s214_1 : sm_at C X 214 1 [l0, some (.int x0)] st N I L P = sm_at C X 214 2 [l0, some (.int x0)] (.int x0 :: st) N I L P := st_go b214 dJ9_min_7cf53_1 (by decide) rfl
theorem s214_2 : sm_at C X 214 2 ls (.int x0 :: .int x1 :: st) N I L P = if x0 < x1 then sm_at C X 214 9 ls st N I L P else sm_at C X 214 5 ls st N I L P := st_br b214 dJ9_min_7cf53_2 (by decide) rfl
theorem s214_5 : sm_at C X 214 5 [some (.int x0), l1] st N I L P = sm_at C X 214 6 [some (.int x0), l1] (.int x0 :: st) N I L P := st_go b214 dJ9_min_7cf53_5 (by decide) rfl
theorem s214_6 : sm_at C X 214 6 ls st N I L P = sm_at C X 214 10 ls st N I L P := st_go b214 dJ9_min_7cf53_6 (by decide) rfl
theorem s214_9 : sm_at C X 214 9 [l0, some (.int x0)] st N I L P = sm_at C X 214 10 [l0, some (.int x0)] (.int x0 :: st) N I L P := st_go b214 dJ9_min_7cf53_9 (by decide) rfl
theorem s214_10 : sm_at C X 214 10 ls [.int x0] N I L P = some (some (.int x0), N, I, L, P) := st_iret b214 dJ9_min_7cf53_10 rfl
end STJ9
end
section
section STJ7
variable {C : sm_Cf} {X : sm_Xs} {ls : List (Option Value)} {st : List Value} {N : Nat} {I : sm_Im} {L : sm_Lm} {P : sm_Pm} {x0 x1 x2 : Int32} {z0 z1 : Int64} {a a2 k n : Nat} {f : Nat → Int32} {w0 w1 w2 w3 w4 w5 w6 v0 v1 v2 v3 v4 : Value} {l0 l1 l2 l3 l4 l5 l6 l7 l8 l9 l10 l11 l12 l13 l14 l15 l16 : Option Value}
theorem b215 : sm_b 215 = cJ7_fill_53178 := rfl
theorem s215_0 : sm_at C X 215 0 ls st N I L P = sm_at C X 215 1 ls (.int (nI 0) :: st) N I L P := st_go b215 dJ7_fill_53178_0 (by decide) rfl
theorem s215_1 : sm_at C X 215 1 [l0, l1, l2, l3] (.int x0 :: st) N I L P = sm_at C X 215 2 [l0, sm_cl l1, some (.int x0), l3] st N I L P := st_go b215 dJ7_fill_53178_1 (by decide) rfl
theorem s215_2 : sm_at C X 215 2 [some (.ref a), l1, l2, l3] st N I L P = sm_at C X 215 3 [some (.ref a), l1, l2, l3] (.ref a :: st) N I L P := st_go b215 dJ7_fill_53178_2 (by decide) rfl
theorem s215_3 (h : a < N) (h1 : sm_lay a = .inr (.inl k)) : sm_at C X 215 3 ls (.ref a :: st) N I L P = sm_at C X 215 4 ls (.int (nI k) :: st) N I L P := st_alen b215 dJ7_fill_53178_3 h h1
theorem s215_4 : sm_at C X 215 4 [l0, l1, l2, l3] (.int x0 :: st) N I L P = sm_at C X 215 5 [l0, l1, sm_cl l2, some (.int x0)] st N I L P := st_go b215 dJ7_fill_53178_4 (by decide) rfl
theorem s215_5 : sm_at C X 215 5 [l0, l1, some (.int x0), l3] st N I L P = sm_at C X 215 6 [l0, l1, some (.int x0), l3] (.int x0 :: st) N I L P := st_go b215 dJ7_fill_53178_5 (by decide) rfl
theorem s215_6 : sm_at C X 215 6 [l0, l1, l2, some (.int x0)] st N I L P = sm_at C X 215 7 [l0, l1, l2, some (.int x0)] (.int x0 :: st) N I L P := st_go b215 dJ7_fill_53178_6 (by decide) rfl
theorem s215_7 : sm_at C X 215 7 ls (.int x0 :: .int x1 :: st) N I L P = if x0 ≤ x1 then sm_at C X 215 20 ls st N I L P else sm_at C X 215 10 ls st N I L P := st_br b215 dJ7_fill_53178_7 (by decide) rfl
theorem s215_10 : sm_at C X 215 10 [some (.ref a), l1, l2, l3] st N I L P = sm_at C X 215 11 [some (.ref a), l1, l2, l3] (.ref a :: st) N I L P := st_go b215 dJ7_fill_53178_10 (by decide) rfl
theorem s215_11 : sm_at C X 215 11 [l0, l1, some (.int x0), l3] st N I L P = sm_at C X 215 12 [l0, l1, some (.int x0), l3] (.int x0 :: st) N I L P := st_go b215 dJ7_fill_53178_11 (by decide) rfl
theorem s215_12 : sm_at C X 215 12 [l0, some (.int x0), l2, l3] st N I L P = sm_at C X 215 13 [l0, some (.int x0), l2, l3] (.int x0 :: st) N I L P := st_go b215 dJ7_fill_53178_12 (by decide) rfl
theorem s215_13 (h : a < N) (h1 : k < sm_al a) : sm_at C X 215 13 ls (.int x0 :: .int (nI k) :: .ref a :: st) N I L P = sm_at C X 215 14 ls st N (sm_up I a k x0) L P := st_iast b215 dJ7_fill_53178_13 h h1
theorem s215_14 : sm_at C X 215 14 [l0, l1, some (.int x0), l3] st N I L P = sm_at C X 215 17 [l0, sm_cl l1, some (.int (x0 + (nI 1))), l3] st N I L P := st_go b215 dJ7_fill_53178_14 (by decide) rfl
theorem s215_17 : sm_at C X 215 17 ls st N I L P = sm_at C X 215 5 ls st N I L P := st_go b215 dJ7_fill_53178_17 (by decide) rfl
theorem s215_20 : sm_at C X 215 20 ls [] N I L P = some (none, N, I, L, P) := st_ret b215 dJ7_fill_53178_20 (by decide) rfl
end STJ7
end
section
section STX5
variable {C : sm_Cf} {X : sm_Xs} {ls : List (Option Value)} {st : List Value} {N : Nat} {I : sm_Im} {L : sm_Lm} {P : sm_Pm} {x0 x1 x2 : Int32} {z0 z1 : Int64} {a a2 k n : Nat} {f : Nat → Int32} {w0 w1 w2 w3 w4 w5 w6 v0 v1 v2 v3 v4 : Value} {l0 l1 l2 l3 l4 l5 l6 l7 l8 l9 l10 l11 l12 l13 l14 l15 l16 : Option Value}
theorem b49 : sm_b 49 = cX5_init := rfl
theorem s49_0 : sm_at C X 49 0 [some (.ref a)] st N I L P = sm_at C X 49 1 [some (.ref a)] (.ref a :: st) N I L P := st_go b49 dX5_init_0 (by decide) rfl
theorem s49_1 : sm_at C X 49 1 ls (.ref a :: []) N I L P = sm_at C X 49 4 ls [] N I L P := st_go b49 dX5_init_1 (by decide) rfl
theorem s49_4 : sm_at C X 49 4 [some (.ref a)] st N I L P = sm_at C X 49 5 [some (.ref a)] (.ref a :: st) N I L P := st_go b49 dX5_init_4 (by decide) rfl
theorem s49_5 : sm_at C X 49 5 ls st N I L P = sm_at C X 49 7 ls (.int (nI 32) :: st) N I L P := st_go b49 dX5_init_5 (by decide) rfl
theorem s49_7 (h : N < 81) (h1 : sm_lay N = .inr (.inl k)) (h2 : k < 1000) : sm_at C X 49 7 ls (.int (nI k) :: st) N I L P = sm_at C X 49 9 ls (.ref N :: st) (N + 1) (sm_z I N 0) L P := st_newa b49 dX5_init_7 h h1 h2
theorem s49_9 (h : a < N) (h1 : sm_lay a = .inl 5) : sm_at C X 49 9 ls (.ref a2 :: .ref a :: st) N I L P = sm_at C X 49 12 ls st N I L (sm_up P a 0 (some a2)) := st_pfR b49 dX5_init_9 rfl rfl (Or.inr ⟨rfl, rfl⟩) h h1
theorem s49_12 : sm_at C X 49 12 ls [] N I L P = some (none, N, I, L, P) := st_ret b49 dX5_init_12 (by decide) rfl
theorem b50 : sm_b 50 = cX5_size := rfl
theorem s50_0 : sm_at C X 50 0 [some (.ref a)] st N I L P = sm_at C X 50 1 [some (.ref a)] (.ref a :: st) N I L P := st_go b50 dX5_size_0 (by decide) rfl
theorem s50_1 (h : a < N) (h1 : sm_lay a = .inl 5) : sm_at C X 50 1 ls (.ref a :: st) N I L P = sm_at C X 50 4 ls (.int (I a 1) :: st) N I L P := st_gfI b50 dX5_size_1 rfl rfl h h1
theorem s50_4 : sm_at C X 50 4 ls [.int x0] N I L P = some (some (.int x0), N, I, L, P) := st_iret b50 dX5_size_4 rfl
theorem b51 : sm_b 51 = cX5_at := rfl
theorem s51_0 : sm_at C X 51 0 [l0, some (.int x0)] st N I L P = sm_at C X 51 1 [l0, some (.int x0)] (.int x0 :: st) N I L P := st_go b51 dX5_at_0 (by decide) rfl
theorem s51_1 : sm_at C X 51 1 ls (.int x0 :: st) N I L P = if x0 < 0 then sm_at C X 51 27 ls st N I L P else sm_at C X 51 4 ls st N I L P := st_br b51 dX5_at_1 (by decide) rfl
theorem s51_4 : sm_at C X 51 4 [l0, some (.int x0)] st N I L P = sm_at C X 51 5 [l0, some (.int x0)] (.int x0 :: st) N I L P := st_go b51 dX5_at_4 (by decide) rfl
theorem s51_5 : sm_at C X 51 5 [some (.ref a), l1] st N I L P = sm_at C X 51 6 [some (.ref a), l1] (.ref a :: st) N I L P := st_go b51 dX5_at_5 (by decide) rfl
theorem s51_6 (h : a < N) (h1 : sm_lay a = .inl 5) : sm_at C X 51 6 ls (.ref a :: st) N I L P = sm_at C X 51 9 ls (.int (I a 1) :: st) N I L P := st_gfI b51 dX5_at_6 rfl rfl h h1
theorem s51_9 : sm_at C X 51 9 ls (.int x0 :: .int x1 :: st) N I L P = if x0 ≤ x1 then sm_at C X 51 27 ls st N I L P else sm_at C X 51 12 ls st N I L P := st_br b51 dX5_at_9 (by decide) rfl
theorem s51_12 : sm_at C X 51 12 [l0, some (.int x0)] st N I L P = sm_at C X 51 13 [l0, some (.int x0)] (.int x0 :: st) N I L P := st_go b51 dX5_at_12 (by decide) rfl
theorem s51_13 : sm_at C X 51 13 ls st N I L P = sm_at C X 51 15 ls (.int (nI 32) :: st) N I L P := st_go b51 dX5_at_13 (by decide) rfl
theorem s51_15 : sm_at C X 51 15 ls (.int x0 :: .int x1 :: st) N I L P = if x0 ≤ x1 then sm_at C X 51 27 ls st N I L P else sm_at C X 51 18 ls st N I L P := st_br b51 dX5_at_15 (by decide) rfl
theorem s51_18 : sm_at C X 51 18 [some (.ref a), l1] st N I L P = sm_at C X 51 19 [some (.ref a), l1] (.ref a :: st) N I L P := st_go b51 dX5_at_18 (by decide) rfl
theorem s51_19 (h : a < N) (h1 : sm_lay a = .inl 5) : sm_at C X 51 19 ls (.ref a :: st) N I L P = sm_at C X 51 22 ls (va_rf (P a 0) :: st) N I L P := st_gfR b51 dX5_at_19 rfl rfl h h1
theorem s51_22 : sm_at C X 51 22 [l0, some (.int x0)] st N I L P = sm_at C X 51 23 [l0, some (.int x0)] (.int x0 :: st) N I L P := st_go b51 dX5_at_22 (by decide) rfl
theorem s51_23 (h : a < N) (h1 : k < sm_al a) : sm_at C X 51 23 ls (.int (nI k) :: .ref a :: st) N I L P = sm_at C X 51 24 ls (.int (I a k) :: st) N I L P := st_iald b51 dX5_at_23 h h1
theorem s51_24 : sm_at C X 51 24 ls st N I L P = sm_at C X 51 28 ls st N I L P := st_go b51 dX5_at_24 (by decide) rfl
theorem s51_27 : sm_at C X 51 27 ls st N I L P = sm_at C X 51 28 ls (.int (-1) :: st) N I L P := st_go b51 dX5_at_27 (by decide) rfl
theorem s51_28 : sm_at C X 51 28 ls [.int x0] N I L P = some (some (.int x0), N, I, L, P) := st_iret b51 dX5_at_28 rfl
theorem b52 : sm_b 52 = cX5_clear := rfl
theorem s52_0 : sm_at C X 52 0 [some (.ref a)] st N I L P = sm_at C X 52 1 [some (.ref a)] (.ref a :: st) N I L P := st_go b52 dX5_clear_0 (by decide) rfl
theorem s52_1 : sm_at C X 52 1 ls st N I L P = sm_at C X 52 2 ls (.int (nI 0) :: st) N I L P := st_go b52 dX5_clear_1 (by decide) rfl
theorem s52_2 (h : a < N) (h1 : sm_lay a = .inl 5) : sm_at C X 52 2 ls (.int x0 :: .ref a :: st) N I L P = sm_at C X 52 5 ls st N (sm_up I a 1 x0) L P := st_pfI b52 dX5_clear_2 rfl rfl rfl h h1
theorem s52_5 : sm_at C X 52 5 ls [] N I L P = some (none, N, I, L, P) := st_ret b52 dX5_clear_5 (by decide) rfl
theorem b53 : sm_b 53 = cX5_write := rfl
theorem s53_0 : sm_at C X 53 0 [l0, some (.long z0), l2, l3, l4] st N I L P = sm_at C X 53 1 [l0, some (.long z0), l2, l3, l4] (.long z0 :: st) N I L P := st_go b53 dX5_write_0 (by decide) rfl
theorem s53_1 : sm_at C X 53 1 ls [w0] N I L P = sm_af C X 53 4 ls [] (C 54 [w0] N I L P) := st_stat b53 dX5_write_1 (n := 1) (rest := []) rfl rfl rfl rfl rfl rfl
theorem s53_4 : sm_at C X 53 4 [l0, l1, l2, l3, l4] (.int x0 :: st) N I L P = sm_at C X 53 5 [l0, l1, sm_cl l2, some (.int x0), l4] st N I L P := st_go b53 dX5_write_4 (by decide) rfl
theorem s53_5 : sm_at C X 53 5 [l0, l1, l2, some (.int x0), l4] st N I L P = sm_at C X 53 6 [l0, l1, l2, some (.int x0), l4] (.int x0 :: st) N I L P := st_go b53 dX5_write_5 (by decide) rfl
theorem s53_6 : sm_at C X 53 6 ls (.int x0 :: st) N I L P = if 0 ≤ x0 then sm_at C X 53 12 ls st N I L P else sm_at C X 53 9 ls st N I L P := st_br b53 dX5_write_6 (by decide) rfl
theorem s53_9 : sm_at C X 53 9 ls st N I L P = sm_at C X 53 11 ls (.int (-102) :: st) N I L P := st_go b53 dX5_write_9 (by decide) rfl
theorem s53_11 : sm_at C X 53 11 ls [.int x0] N I L P = some (some (.int x0), N, I, L, P) := st_iret b53 dX5_write_11 rfl
theorem s53_12 : sm_at C X 53 12 [some (.ref a), l1, l2, l3, l4] st N I L P = sm_at C X 53 13 [some (.ref a), l1, l2, l3, l4] (.ref a :: st) N I L P := st_go b53 dX5_write_12 (by decide) rfl
theorem s53_13 (h : a < N) (h1 : sm_lay a = .inl 5) : sm_at C X 53 13 ls (.ref a :: st) N I L P = sm_at C X 53 16 ls (.int (I a 1) :: st) N I L P := st_gfI b53 dX5_write_13 rfl rfl h h1
theorem s53_16 : sm_at C X 53 16 [l0, l1, l2, some (.int x0), l4] st N I L P = sm_at C X 53 17 [l0, l1, l2, some (.int x0), l4] (.int x0 :: st) N I L P := st_go b53 dX5_write_16 (by decide) rfl
theorem s53_17 : sm_at C X 53 17 ls (.int x0 :: .int x1 :: st) N I L P = sm_at C X 53 18 ls (.int (x1 + x0) :: st) N I L P := st_go b53 dX5_write_17 (by decide) rfl
theorem s53_18 : sm_at C X 53 18 ls st N I L P = sm_at C X 53 20 ls (.int (nI 32) :: st) N I L P := st_go b53 dX5_write_18 (by decide) rfl
theorem s53_20 : sm_at C X 53 20 ls (.int x0 :: .int x1 :: st) N I L P = if x1 ≤ x0 then sm_at C X 53 26 ls st N I L P else sm_at C X 53 23 ls st N I L P := st_br b53 dX5_write_20 (by decide) rfl
theorem s53_23 : sm_at C X 53 23 ls st N I L P = sm_at C X 53 25 ls (.int (-104) :: st) N I L P := st_go b53 dX5_write_23 (by decide) rfl
theorem s53_25 : sm_at C X 53 25 ls [.int x0] N I L P = some (some (.int x0), N, I, L, P) := st_iret b53 dX5_write_25 rfl
theorem s53_26 : sm_at C X 53 26 ls st N I L P = sm_at C X 53 27 ls (.int (nI 0) :: st) N I L P := st_go b53 dX5_write_26 (by decide) rfl
theorem s53_27 : sm_at C X 53 27 [l0, l1, l2, l3, l4] (.int x0 :: st) N I L P = sm_at C X 53 29 [l0, l1, l2, sm_cl l3, some (.int x0)] st N I L P := st_go b53 dX5_write_27 (by decide) rfl
theorem s53_29 : sm_at C X 53 29 [l0, l1, l2, l3, some (.int x0)] st N I L P = sm_at C X 53 31 [l0, l1, l2, l3, some (.int x0)] (.int x0 :: st) N I L P := st_go b53 dX5_write_29 (by decide) rfl
theorem s53_31 : sm_at C X 53 31 [l0, l1, l2, some (.int x0), l4] st N I L P = sm_at C X 53 32 [l0, l1, l2, some (.int x0), l4] (.int x0 :: st) N I L P := st_go b53 dX5_write_31 (by decide) rfl
theorem s53_32 : sm_at C X 53 32 ls (.int x0 :: .int x1 :: st) N I L P = if x0 ≤ x1 then sm_at C X 53 59 ls st N I L P else sm_at C X 53 35 ls st N I L P := st_br b53 dX5_write_32 (by decide) rfl
theorem s53_35 : sm_at C X 53 35 [some (.ref a), l1, l2, l3, l4] st N I L P = sm_at C X 53 36 [some (.ref a), l1, l2, l3, l4] (.ref a :: st) N I L P := st_go b53 dX5_write_35 (by decide) rfl
theorem s53_36 (h : a < N) (h1 : sm_lay a = .inl 5) : sm_at C X 53 36 ls (.ref a :: st) N I L P = sm_at C X 53 39 ls (va_rf (P a 0) :: st) N I L P := st_gfR b53 dX5_write_36 rfl rfl h h1
theorem s53_39 : sm_at C X 53 39 [some (.ref a), l1, l2, l3, l4] st N I L P = sm_at C X 53 40 [some (.ref a), l1, l2, l3, l4] (.ref a :: st) N I L P := st_go b53 dX5_write_39 (by decide) rfl
theorem s53_40 (h : a < N) (h1 : sm_lay a = .inl 5) : sm_at C X 53 40 ls (.ref a :: st) N I L P = sm_at C X 53 43 ls (.int (I a 1) :: st) N I L P := st_gfI b53 dX5_write_40 rfl rfl h h1
theorem s53_43 : sm_at C X 53 43 [l0, l1, l2, l3, some (.int x0)] st N I L P = sm_at C X 53 45 [l0, l1, l2, l3, some (.int x0)] (.int x0 :: st) N I L P := st_go b53 dX5_write_43 (by decide) rfl
theorem s53_45 : sm_at C X 53 45 ls (.int x0 :: .int x1 :: st) N I L P = sm_at C X 53 46 ls (.int (x1 + x0) :: st) N I L P := st_go b53 dX5_write_45 (by decide) rfl
theorem s53_46 : sm_at C X 53 46 [l0, some (.long z0), l2, l3, l4] st N I L P = sm_at C X 53 47 [l0, some (.long z0), l2, l3, l4] (.long z0 :: st) N I L P := st_go b53 dX5_write_46 (by decide) rfl
theorem s53_47 : sm_at C X 53 47 [l0, l1, l2, l3, some (.int x0)] st N I L P = sm_at C X 53 49 [l0, l1, l2, l3, some (.int x0)] (.int x0 :: st) N I L P := st_go b53 dX5_write_47 (by decide) rfl
theorem s53_49 : sm_at C X 53 49 ls [w1, w0, v1, v0] N I L P = sm_af C X 53 52 ls [v1, v0] (C 55 [w0, w1] N I L P) := st_stat b53 dX5_write_49 (n := 2) (rest := [v1, v0]) rfl rfl rfl rfl rfl rfl
theorem s53_52 (h : a < N) (h1 : k < sm_al a) : sm_at C X 53 52 ls (.int x0 :: .int (nI k) :: .ref a :: st) N I L P = sm_at C X 53 53 ls st N (sm_up I a k x0) L P := st_iast b53 dX5_write_52 h h1
theorem s53_53 : sm_at C X 53 53 [l0, l1, l2, l3, some (.int x0)] st N I L P = sm_at C X 53 56 [l0, l1, l2, sm_cl l3, some (.int (x0 + (nI 1)))] st N I L P := st_go b53 dX5_write_53 (by decide) rfl
theorem s53_56 : sm_at C X 53 56 ls st N I L P = sm_at C X 53 29 ls st N I L P := st_go b53 dX5_write_56 (by decide) rfl
theorem s53_59 : sm_at C X 53 59 [some (.ref a), l1, l2, l3, l4] st N I L P = sm_at C X 53 60 [some (.ref a), l1, l2, l3, l4] (.ref a :: st) N I L P := st_go b53 dX5_write_59 (by decide) rfl
theorem s53_60 : sm_at C X 53 60 ls (.ref a :: st) N I L P = sm_at C X 53 61 ls (.ref a :: .ref a :: st) N I L P := st_go b53 dX5_write_60 (by decide) rfl
theorem s53_61 (h : a < N) (h1 : sm_lay a = .inl 5) : sm_at C X 53 61 ls (.ref a :: st) N I L P = sm_at C X 53 64 ls (.int (I a 1) :: st) N I L P := st_gfI b53 dX5_write_61 rfl rfl h h1
theorem s53_64 : sm_at C X 53 64 [l0, l1, l2, some (.int x0), l4] st N I L P = sm_at C X 53 65 [l0, l1, l2, some (.int x0), l4] (.int x0 :: st) N I L P := st_go b53 dX5_write_64 (by decide) rfl
theorem s53_65 : sm_at C X 53 65 ls (.int x0 :: .int x1 :: st) N I L P = sm_at C X 53 66 ls (.int (x1 + x0) :: st) N I L P := st_go b53 dX5_write_65 (by decide) rfl
theorem s53_66 (h : a < N) (h1 : sm_lay a = .inl 5) : sm_at C X 53 66 ls (.int x0 :: .ref a :: st) N I L P = sm_at C X 53 69 ls st N (sm_up I a 1 x0) L P := st_pfI b53 dX5_write_66 rfl rfl rfl h h1
theorem s53_69 : sm_at C X 53 69 [some (.ref a), l1, l2, l3, l4] st N I L P = sm_at C X 53 70 [some (.ref a), l1, l2, l3, l4] (.ref a :: st) N I L P := st_go b53 dX5_write_69 (by decide) rfl
theorem s53_70 (h : a < N) (h1 : sm_lay a = .inl 5) : sm_at C X 53 70 ls (.ref a :: st) N I L P = sm_at C X 53 73 ls (.int (I a 1) :: st) N I L P := st_gfI b53 dX5_write_70 rfl rfl h h1
theorem s53_73 : sm_at C X 53 73 ls [.int x0] N I L P = some (some (.int x0), N, I, L, P) := st_iret b53 dX5_write_73 rfl
theorem b54 : sm_b 54 = cX5_lettersIn := rfl
theorem s54_0 : sm_at C X 54 0 ls st N I L P = sm_at C X 54 1 ls (.int (nI 0) :: st) N I L P := st_go b54 dX5_lettersIn_0 (by decide) rfl
theorem s54_1 : sm_at C X 54 1 [l0, l1, l2, l3, l4, l5] (.int x0 :: st) N I L P = sm_at C X 54 2 [l0, sm_cl l1, some (.int x0), l3, l4, l5] st N I L P := st_go b54 dX5_lettersIn_1 (by decide) rfl
theorem s54_2 : sm_at C X 54 2 ls st N I L P = sm_at C X 54 3 ls (.int (nI 0) :: st) N I L P := st_go b54 dX5_lettersIn_2 (by decide) rfl
theorem s54_3 : sm_at C X 54 3 [l0, l1, l2, l3, l4, l5] (.int x0 :: st) N I L P = sm_at C X 54 4 [l0, l1, sm_cl l2, some (.int x0), l4, l5] st N I L P := st_go b54 dX5_lettersIn_3 (by decide) rfl
theorem s54_4 : sm_at C X 54 4 [l0, l1, l2, some (.int x0), l4, l5] st N I L P = sm_at C X 54 5 [l0, l1, l2, some (.int x0), l4, l5] (.int x0 :: st) N I L P := st_go b54 dX5_lettersIn_4 (by decide) rfl
theorem s54_5 : sm_at C X 54 5 ls st N I L P = sm_at C X 54 7 ls (.int (nI 8) :: st) N I L P := st_go b54 dX5_lettersIn_5 (by decide) rfl
theorem s54_7 : sm_at C X 54 7 ls (.int x0 :: .int x1 :: st) N I L P = if x0 ≤ x1 then sm_at C X 54 62 ls st N I L P else sm_at C X 54 10 ls st N I L P := st_br b54 dX5_lettersIn_7 (by decide) rfl
theorem s54_10 : sm_at C X 54 10 [some (.long z0), l1, l2, l3, l4, l5] st N I L P = sm_at C X 54 11 [some (.long z0), l1, l2, l3, l4, l5] (.long z0 :: st) N I L P := st_go b54 dX5_lettersIn_10 (by decide) rfl
theorem s54_11 : sm_at C X 54 11 [l0, l1, l2, some (.int x0), l4, l5] st N I L P = sm_at C X 54 12 [l0, l1, l2, some (.int x0), l4, l5] (.int x0 :: st) N I L P := st_go b54 dX5_lettersIn_11 (by decide) rfl
theorem s54_12 : sm_at C X 54 12 ls [w1, w0] N I L P = sm_af C X 54 15 ls [] (C 55 [w0, w1] N I L P) := st_stat b54 dX5_lettersIn_12 (n := 2) (rest := []) rfl rfl rfl rfl rfl rfl
theorem s54_15 : sm_at C X 54 15 [l0, l1, l2, l3, l4, l5] (.int x0 :: st) N I L P = sm_at C X 54 17 [l0, l1, l2, sm_cl l3, some (.int x0), l5] st N I L P := st_go b54 dX5_lettersIn_15 (by decide) rfl
theorem s54_17 : sm_at C X 54 17 [l0, l1, some (.int x0), l3, l4, l5] st N I L P = sm_at C X 54 18 [l0, l1, some (.int x0), l3, l4, l5] (.int x0 :: st) N I L P := st_go b54 dX5_lettersIn_17 (by decide) rfl
theorem s54_18 : sm_at C X 54 18 [l0, l1, l2, some (.int x0), l4, l5] st N I L P = sm_at C X 54 19 [l0, l1, l2, some (.int x0), l4, l5] (.int x0 :: st) N I L P := st_go b54 dX5_lettersIn_18 (by decide) rfl
theorem s54_19 : sm_at C X 54 19 ls (.int x0 :: .int x1 :: st) N I L P = if x0 ≤ x1 then sm_at C X 54 26 ls st N I L P else sm_at C X 54 22 ls st N I L P := st_br b54 dX5_lettersIn_19 (by decide) rfl
theorem s54_22 : sm_at C X 54 22 ls st N I L P = sm_at C X 54 23 ls (.int (nI 1) :: st) N I L P := st_go b54 dX5_lettersIn_22 (by decide) rfl
theorem s54_23 : sm_at C X 54 23 ls st N I L P = sm_at C X 54 27 ls st N I L P := st_go b54 dX5_lettersIn_23 (by decide) rfl
theorem s54_26 : sm_at C X 54 26 ls st N I L P = sm_at C X 54 27 ls (.int (nI 0) :: st) N I L P := st_go b54 dX5_lettersIn_26 (by decide) rfl
theorem s54_27 : sm_at C X 54 27 [l0, l1, l2, l3, l4, l5] (.int x0 :: st) N I L P = sm_at C X 54 29 [l0, l1, l2, l3, sm_cl l4, some (.int x0)] st N I L P := st_go b54 dX5_lettersIn_27 (by decide) rfl
theorem s54_29 : sm_at C X 54 29 [l0, l1, l2, l3, some (.int x0), l5] st N I L P = sm_at C X 54 31 [l0, l1, l2, l3, some (.int x0), l5] (.int x0 :: st) N I L P := st_go b54 dX5_lettersIn_29 (by decide) rfl
theorem s54_31 : sm_at C X 54 31 ls st N I L P = sm_at C X 54 33 ls (.int (nI 126) :: st) N I L P := st_go b54 dX5_lettersIn_31 (by decide) rfl
theorem s54_33 : sm_at C X 54 33 ls (.int x0 :: .int x1 :: st) N I L P = if x0 < x1 then sm_at C X 54 46 ls st N I L P else sm_at C X 54 36 ls st N I L P := st_br b54 dX5_lettersIn_33 (by decide) rfl
theorem s54_36 : sm_at C X 54 36 [l0, l1, l2, l3, some (.int x0), l5] st N I L P = sm_at C X 54 38 [l0, l1, l2, l3, some (.int x0), l5] (.int x0 :: st) N I L P := st_go b54 dX5_lettersIn_36 (by decide) rfl
theorem s54_38 : sm_at C X 54 38 ls (.int x0 :: st) N I L P = if x0 = 0 then sm_at C X 54 48 ls st N I L P else sm_at C X 54 41 ls st N I L P := st_br b54 dX5_lettersIn_38 (by decide) rfl
theorem s54_41 : sm_at C X 54 41 [l0, l1, l2, l3, l4, some (.int x0)] st N I L P = sm_at C X 54 43 [l0, l1, l2, l3, l4, some (.int x0)] (.int x0 :: st) N I L P := st_go b54 dX5_lettersIn_41 (by decide) rfl
theorem s54_43 : sm_at C X 54 43 ls (.int x0 :: st) N I L P = if x0 = 0 then sm_at C X 54 48 ls st N I L P else sm_at C X 54 46 ls st N I L P := st_br b54 dX5_lettersIn_43 (by decide) rfl
theorem s54_46 : sm_at C X 54 46 ls st N I L P = sm_at C X 54 47 ls (.int (-1) :: st) N I L P := st_go b54 dX5_lettersIn_46 (by decide) rfl
theorem s54_47 : sm_at C X 54 47 ls [.int x0] N I L P = some (some (.int x0), N, I, L, P) := st_iret b54 dX5_lettersIn_47 rfl
theorem s54_48 : sm_at C X 54 48 [l0, l1, l2, l3, some (.int x0), l5] st N I L P = sm_at C X 54 50 [l0, l1, l2, l3, some (.int x0), l5] (.int x0 :: st) N I L P := st_go b54 dX5_lettersIn_48 (by decide) rfl
theorem s54_50 : sm_at C X 54 50 ls (.int x0 :: st) N I L P = if x0 = 0 then sm_at C X 54 56 ls st N I L P else sm_at C X 54 53 ls st N I L P := st_br b54 dX5_lettersIn_50 (by decide) rfl
theorem s54_53 : sm_at C X 54 53 [l0, l1, some (.int x0), l3, l4, l5] st N I L P = sm_at C X 54 56 [l0, sm_cl l1, some (.int (x0 + (nI 1))), l3, l4, l5] st N I L P := st_go b54 dX5_lettersIn_53 (by decide) rfl
theorem s54_56 : sm_at C X 54 56 [l0, l1, l2, some (.int x0), l4, l5] st N I L P = sm_at C X 54 59 [l0, l1, sm_cl l2, some (.int (x0 + (nI 1))), l4, l5] st N I L P := st_go b54 dX5_lettersIn_56 (by decide) rfl
theorem s54_59 : sm_at C X 54 59 ls st N I L P = sm_at C X 54 4 ls st N I L P := st_go b54 dX5_lettersIn_59 (by decide) rfl
theorem s54_62 : sm_at C X 54 62 [l0, l1, some (.int x0), l3, l4, l5] st N I L P = sm_at C X 54 63 [l0, l1, some (.int x0), l3, l4, l5] (.int x0 :: st) N I L P := st_go b54 dX5_lettersIn_62 (by decide) rfl
theorem s54_63 : sm_at C X 54 63 ls [.int x0] N I L P = some (some (.int x0), N, I, L, P) := st_iret b54 dX5_lettersIn_63 rfl
theorem b55 : sm_b 55 = cX5_byteOf := rfl
theorem s55_0 : sm_at C X 55 0 [some (.long z0), l1, l2] st N I L P = sm_at C X 55 1 [some (.long z0), l1, l2] (.long z0 :: st) N I L P := st_go b55 dX5_byteOf_0 (by decide) rfl
theorem s55_1 : sm_at C X 55 1 ls st N I L P = sm_at C X 55 3 ls (.int (nI 8) :: st) N I L P := st_go b55 dX5_byteOf_1 (by decide) rfl
theorem s55_3 : sm_at C X 55 3 [l0, l1, some (.int x0)] st N I L P = sm_at C X 55 4 [l0, l1, some (.int x0)] (.int x0 :: st) N I L P := st_go b55 dX5_byteOf_3 (by decide) rfl
theorem s55_4 : sm_at C X 55 4 ls (.int x0 :: .int x1 :: st) N I L P = sm_at C X 55 5 ls (.int (x1 * x0) :: st) N I L P := st_go b55 dX5_byteOf_4 (by decide) rfl
theorem s55_5 : sm_at C X 55 5 ls (.int x0 :: .long z0 :: st) N I L P = sm_at C X 55 6 ls (.long (z0.toUInt64 >>> (x0.toInt64.toUInt64 &&& Int64.toUInt64 63)).toInt64 :: st) N I L P := st_go b55 dX5_byteOf_5 (by decide) rfl
theorem s55_6 : sm_at C X 55 6 ls st N I L P = sm_at C X 55 9 ls (.long (lN 255) :: st) N I L P := st_go b55 dX5_byteOf_6 (by decide) rfl
theorem s55_9 : sm_at C X 55 9 ls (.long z0 :: .long z1 :: st) N I L P = sm_at C X 55 10 ls (.long (z1 &&& z0) :: st) N I L P := st_go b55 dX5_byteOf_9 (by decide) rfl
theorem s55_10 : sm_at C X 55 10 ls (.long z0 :: st) N I L P = sm_at C X 55 11 ls (.int z0.toInt32 :: st) N I L P := st_go b55 dX5_byteOf_10 (by decide) rfl
theorem s55_11 : sm_at C X 55 11 ls [.int x0] N I L P = some (some (.int x0), N, I, L, P) := st_iret b55 dX5_byteOf_11 rfl
end STX5
end
section
/-- THE PURE PART: the small machine's law answers 1 on every script -/
theorem law_pure (L : Nat) (xs : Nat → Int32) (hL : L ≤ 320) : ∃ r : sm_Rs, sm_at (sm_ex 40) (some (L, xs)) 216 0 [some (.ref 1048578), none, none, none] [] 0 (fun _ _ => 0) (fun _ _ => 0) (fun _ _ => none) = some r ∧ r.1 = some (.int 1) := by
  sorry
end
section
/-! THE CLAIM OUT OF ONE WALK OF THE LAW'S BODY. Your part is whole_start (and what it stands on); all else here is the same for every law, but numbers. -/
def R_law : String := "FeltByTwinLaw"
def lw_P (b : Addr) (xs : List Int32) (args : Array Value) (s : State) : Prop := args = #[.ref b] ∧ s.IntsAt b xs ∧ xs.length ≤ 320 ∧ (Jvm.Cond.and given_1 narrow_1).before args s = true
def lw_Q (_ : Array Value) (s : State) (o : Outcome) (t : State) : Prop := o = .returned (some (.int 1)) ∧ Framed s o t [] 600000 7302250
def lw_Z (below : List Frame) (a : Array Value) (s : State) : State → Prop := fun t => ∃ o, t.status = .running ∧ Ended t below o ∧ lw_Q a s o t
/-- the law's own end, with 1 on the stack, nothing written that was there before, its room as the claim has it -/
theorem lw_ret {p : Program} {l : Launch} {e : Env} {s : State} {m : MethodId} {below : List Frame} {meth : Method} {c : Code} {b : Nat} (hx : p.tables.exec = Jvm.exec) (hb : c.code = code) (hr : meth.sig.returnType = ret) (hlocks : meth.locks = false) {pc : Nat} {H : Heap} {ls : Array Slot} (hdg : decode code pc = .ok (.ireturn, 1)) : W p l e room_1 s m #[Value.ref b] below meth c H [] 600000 7302250 (lw_Z below #[Value.ref b] s) (F0 m pc ls [.int 1]) := by
  intro T hT X
  obtain ⟨fs, hret, hrun, hended, hW, hframe⟩ := X.leave (v := some (.int 1)) (hlocks := hlocks) (fun h => by rw [hr] at h; cases h)
  have hmeth' : T.vm.method? m = some meth := X.method'
  refine ⟨T.setFrames fs, ?_, .returned (some (.int 1)), hrun, hended, rfl, ⟨_, rfl⟩, hW, hframe⟩
  jvm_step X.here [X.here.top, hx, hb, hdg, hmeth', hr, ret, narrow_b1]
  (try refine ⟨rfl, ?_⟩); (try refine ⟨rfl, ?_⟩)
  first | (intro acts; rw [hret _ acts rfl rfl rfl]) | rw [hret _ _ rfl rfl rfl]
  exact Steps.refl _
/-- what holds at the law's entry: the machine, the code, the tables' words (any of lw_tbl by 'hts w (by decide +kernel)'), the script of L ints xs at the cell b, what the Statement gives of the start (any of its parts by flat_of_before) -/
def lw_At (p : Program) (s : State) (m : MethodId) (meth : Method) (c : Code) (b L : Nat) (xs : Nat → Int32) : Prop :=
  p.tables.exec = Jvm.exec ∧ c.code = code ∧ meth.sig.returnType = ret ∧ c.maxLocals = 4 ∧ s.vm.findClass R_law = some m.cls ∧ (∀ w ∈ lw_tbl, w.before #[Value.ref b] s = true) ∧ va_X b L xs s s.heap ∧ b < s.heap.size ∧ meth.locks = false ∧ (Jvm.Cond.and given_1 narrow_1).before #[Value.ref b] s = true
set_option maxHeartbeats 4000000 in
theorem law_go {p : Program} {l : Launch} {e : Env} {s : State} {m : MethodId} {below : List Frame} {meth : Method} {c : Code} {D : va_G} {cyI cyB : ClassId} {tL tG b : Nat} {X : sm_Xs} {d : Nat} (hx : p.tables.exec = Jvm.exec) (hb : c.code = code) (hr : meth.sig.returnType = ret) (hml : c.maxLocals = 4) (hlocks : meth.locks = false) (hown : s.vm.findClass R_law = some m.cls) (hts : ∀ w ∈ sm_W, w.before #[Value.ref b] s = true) (hE : sm_En s.heap.size tL tG s) (hX : ∀ q, X = some q → va_X b q.1 q.2 s s.heap ∧ b < s.heap.size) (hd1 : d ≤ 1000) (r : sm_Rs) (hr1 : r.1 = some (.int 1)) (hrN : r.2.1 ≤ 1000) (hsl : sm_sl r.2.1 ≤ 7302250) :
    ∀ (n : Nat) (t : sm_St), sm_run (sm_ex d) X 216 n t = some r → sm_Go p l e room_1 s m #[Value.ref b] below meth c (lw_Z below #[Value.ref b] s) D cyI cyB s.heap.size (sm_rho s.heap.size tL tG b) (sm_ml 216) 0 t := by
  intro n
  induction n with
  | zero => intro t h; cases h
  | succ n ih =>
    intro t h
    unfold sm_run at h
    cases hS1 : sm_S (sm_ex d) X 216 t with
    | none => rw [hS1] at h; cases h
    | some q =>
      rw [hS1] at h
      cases q with
      | inr t1 =>
        exact sm_step (R := room_1) (i := 216) (d := d) (Nf := r.2.1) hx hb hml hown hts hE hX (fun q => by cases q) rfl ⟨by show d + 1 ≤ 2048; omega, by show 64 * (d + 1) ≤ 84000; omega⟩ ⟨by show r.2.1 - 0 ≤ 600000; omega, by show sm_sl r.2.1 - 0 ≤ 7302250; omega⟩ (sm_met l D cyI cyB s.heap.size tL tG b d) hS1 (sm_run_N (sm_ex_N d) n t1 r h).1 (ih t1 h)
      | inl r1 =>
        obtain rfl := Option.some.inj h
        obtain ⟨pc, ls, st, N, I, L, P⟩ := t
        obtain ⟨o, M⟩ := r1
        obtain ⟨e1, e2⟩ := sm_ret_S hS1
        dsimp only at e1 hr1
        subst e1
        subst hr1
        intro H locs lsr hk hl hn
        obtain ⟨hK, hP, hS, hN⟩ := hk
        dsimp only at hK hP hS hN e2 hrN hsl ⊢
        rcases e2 with ⟨v, hd, rfl, hv, hrt⟩ | ⟨v, hd, rfl, hv, hrt⟩ | ⟨v, hd, rfl, hv, hrt⟩ | ⟨hd, rfl, hv, hrt⟩
        · cases hv
          refine va_forget (fun q hq => hS.2.2 q hq) ?_
          refine W.widen (k := 600000) (n := 7302250) (by omega) (by show sm_sl N - 0 ≤ _; omega) ?_
          exact lw_ret hx hb hr hlocks hd
        · cases hv
        · cases v <;> cases hv
        · cases hv
set_option maxRecDepth 100000 in
theorem law_flat0 : ∀ j, j < 15 → Cond.eq (.elem (.static "FeltByTwin$News" "LESSER" "[I") (.int (Int32.ofNat j))) (.int (sm_tab 0 j)) ∈ flatC (Jvm.Cond.and given_1 narrow_1) := by decide +kernel
set_option maxRecDepth 100000 in
theorem law_flat1 : ∀ j, j < 15 → Cond.eq (.elem (.static "FeltByTwin$News" "GREATER" "[I") (.int (Int32.ofNat j))) (.int (sm_tab 1 j)) ∈ flatC (Jvm.Cond.and given_1 narrow_1) := by decide +kernel
set_option maxRecDepth 100000 in
theorem law_flat2 : Cond.arrayOf (.static "FeltByTwin$News" "LESSER" "[I") .int ∈ flatC (Jvm.Cond.and given_1 narrow_1) ∧ Cond.arrayOf (.static "FeltByTwin$News" "GREATER" "[I") .int ∈ flatC (Jvm.Cond.and given_1 narrow_1) ∧ Cond.eq (.length (.static "FeltByTwin$News" "LESSER" "[I")) (.int 15) ∈ flatC (Jvm.Cond.and given_1 narrow_1) ∧ Cond.eq (.length (.static "FeltByTwin$News" "GREATER" "[I")) (.int 15) ∈ flatC (Jvm.Cond.and given_1 narrow_1) := by decide +kernel
set_option maxRecDepth 100000 in
theorem law_w1 : lw_tbl[617]? = some (.laysStatic "FeltByTwin$News" "LESSER" "[I") ∧ lw_tbl[619]? = some (.laysStatic "FeltByTwin$News" "GREATER" "[I") ∧ lw_tbl[49]? = some (.initialized "FeltByTwin$News") ∧ lw_tbl[221]? = some (.arrayOver (.object "FeltByTwin$Birth")) ∧ lw_tbl[83]? = some (.arrayClass .int) := by decide +kernel
theorem sm_sl_81 : ∀ N, N ≤ 1000 → sm_sl N ≤ 7302250 := by
  have h : (List.range 1001).all (fun n => decide (sm_sz n ≤ 300)) = true := by decide +kernel
  have key : ∀ N, N ≤ 1000 → sm_sl N ≤ 300 * N := by
    intro N
    induction N with
    | zero => intro _; exact Nat.le_refl _
    | succ N ih =>
      intro hN
      have h1 := of_decide_eq_true (List.all_eq_true.mp h N (List.mem_range.mpr (by omega)))
      have h2 := ih (by omega)
      show sm_sl N + sm_sz N ≤ _
      omega
  intro N hN
  have := key N hN
  omega
set_option maxHeartbeats 4000000 in
theorem whole_start {p : Program} {e : Env} {s : State} {m : MethodId} {below : List Frame} {meth : Method} {c : Code} (l : Launch) {b L : Nat} {xs : Nat → Int32} (hL : L ≤ 320) (C0 : lw_At p s m meth c b L xs) : W p l e room_1 s m #[Value.ref b] below meth c s.heap [] 0 0 (lw_Z below #[Value.ref b] s) (entryFrame m ([Value.ref b] : List Value).toArray 4) := by
  obtain ⟨hx, hb, hr, hml, hown, hts0, hX, hbl, hlocks, hgv⟩ := C0
  have hts : ∀ w ∈ sm_W, w.before #[Value.ref b] s = true := fun w hw => hts0 w (List.mem_filter.mp hw).1
  obtain ⟨w1, w2, w3, w4, w5⟩ := law_w1
  have hfl := flat_of_before _ hgv
  have hA : ∀ a : Nat, a < s.heap.size → ¬ (fun q => s.heap.size ≤ q) a := fun a h1 h2 => absurd h2 (Nat.not_le.mpr h1)
  obtain ⟨tL, hvL, hTL⟩ := va_Tof (ty := .int) (N := 15) (f := fun j => .int (sm_tab 0 j)) (A := fun q => s.heap.size ≤ q) (by decide) (hfl _ law_flat2.1) (va_eqt (hfl _ law_flat2.2.2.1)) (fun j hj => va_eqt (hfl _ (law_flat0 j hj))) hA
  obtain ⟨tG, hvG, hTG⟩ := va_Tof (ty := .int) (N := 15) (f := fun j => .int (sm_tab 1 j)) (A := fun q => s.heap.size ≤ q) (by decide) (hfl _ law_flat2.2.1) (va_eqt (hfl _ law_flat2.2.2.2)) (fun j hj => va_eqt (hfl _ (law_flat1 j hj))) hA
  have hini := hts0 _ (List.mem_of_getElem? w3)
  have hZL := va_Zref (A := fun q => s.heap.size ≤ q) (hts0 _ (List.mem_of_getElem? w1)) hini hvL hA
  have hZG := va_Zref (A := fun q => s.heap.size ≤ q) (hts0 _ (List.mem_of_getElem? w2)) hini hvG hA
  have hE : sm_En s.heap.size tL tG s := by
    refine ⟨va_AO.of (hts0 _ (List.mem_of_getElem? w4)), fun w hw => ?_, Nat.le_refl _, ⟨hZL, hTL⟩, hZG, hTG⟩
    obtain ⟨h1, h2⟩ := List.mem_filter.mp hw
    cases w with
    | methodLinkNest a i y h => exact va_Nw.of rfl (hts0 _ h1)
    | _ => cases h2
  have hcl : ∀ k, k < 12 → ∃ (cC : ClassId) (iS : Nat → Nat), ∀ q : vw_C, vwCl[k]? = some q → u_Kn s q.1 q.2.1 q.2.2 cC iS := by
    intro k hk
    obtain ⟨q, hq⟩ := sm_vw hk
    obtain ⟨e1, e2, e3, e4, e5, e6, -⟩ := sm_cls_ok hq
    obtain ⟨cC, iS, h⟩ := u_known (C := q.1) (T := q.2.1) (N := q.2.2) (n := sm_nf k) hts e2 (hts _ e3)
    exact ⟨cC, iS, fun q' hq' => by rw [hq] at hq'; cases hq'; exact h⟩
  obtain ⟨dC, dI, hKc⟩ : ∃ (dC : Nat → ClassId) (dI : Nat → Nat → Nat), ∀ (k : Nat) (q : vw_C), vwCl[k]? = some q → u_Kn s q.1 q.2.1 q.2.2 (dC k) (dI k) := by
    refine ⟨fun k => if h : k < 12 then (hcl k h).choose else 0, fun k => if h : k < 12 then (hcl k h).choose_spec.choose else fun _ => 0, fun k q hq => ?_⟩
    have hk := sm_cl12 hq
    simp only [dif_pos hk]
    exact (hcl k hk).choose_spec.choose_spec q hq
  obtain ⟨cyI, kI, compI, i1, i2, i3⟩ := Cond.arrayClass_spec (hts0 _ (List.mem_of_getElem? w5))
  obtain ⟨comp, cyB, kB, b1, b2, b3, b4, b5⟩ := Cond.arrayOver_spec (hts0 _ (List.mem_of_getElem? w4))
  have hK : va_K (dC, dI) vwCl (sm_ty cyI cyB) s := by
    refine ⟨hKc, fun k q hq => ?_⟩
    match k, hq with
    | 0, hq => cases hq; exact ⟨fun n z => ⟨fun k h => (by cases h), kI, i2, compI, i3⟩, i1⟩
    | 1, hq => cases hq; exact ⟨fun n z => ⟨fun k h => (by cases h), kB, by assumption, comp, by assumption⟩, kB, comp, by assumption, by assumption, by assumption, by assumption⟩
    | k + 2, hq => simp [sm_ty] at hq
  obtain ⟨r, hr0, hr1⟩ := law_pure L xs hL
  obtain ⟨n, hn⟩ := sm_lim_iff.mp hr0
  have hrN := (sm_run_N (sm_ex_N 40) n _ r hn).2 (Nat.zero_le _)
  rw [lg_entry_eq]
  have hl := lv_entry ([Value.ref b]) (n := 4) (Nat.le_of_ble_eq_true rfl)
  have key := law_go (p := p) (l := l) (e := e) (below := below) (D := (dC, dI)) (cyI := cyI) (cyB := cyB) (tL := tL) (tG := tG) (d := 40) hx hb hr hml hlocks hown hts hE (X := some (L, xs)) (fun q hq => by cases hq; exact ⟨hX, hbl⟩) (by decide) r hr1 hrN (sm_sl_81 _ hrN) n _ hn s.heap [] ((lg_sl ([Value.ref b]) ++ List.replicate (4 - (lg_sl ([Value.ref b])).length) Slot.unset).toArray) ⟨hK, fun k q h => by simp [sm_cw] at h, va_S.rf, Nat.zero_le _⟩ ⟨hl.1, hl.2.1, fun k v hk => ?_⟩ (Nat.le_refl 0)
  · exact key
  · match k, hk with
    | 0, hk => cases hk; rfl
    | 1, hk => cases hk
    | 2, hk => cases hk
    | 3, hk => cases hk
    | k + 4, hk => cases hk
end
section
set_option maxHeartbeats 4000000 in
theorem lw_walk (l : Launch) (b : Addr) (xs : List Int32) : MetFree l x (headSpec (Jvm.Cond.code x code maxLocals ret :: tables_1) room_1) (lw_P b xs) (fun _ _ _ _ _ => True) lw_Q := by
  refine MetFree.of_bodyS (code := code) (maxLocals := maxLocals) (ret := ret) (by decide) ?_ ?_
  · intro args s m h hn
    obtain ⟨meth, c, h1, h2, h3, h4, h5, h6, -, -⟩ := Cond.code_spec hn (atoms_spec (ws := Jvm.Cond.code x code maxLocals ret :: tables_1) h _ List.mem_cons_self)
    exact ⟨meth, c, h1, h2, h3, h4, h5, h6⟩
  · intro p e s m args below meth c s₁ B hml0 hP _
    obtain ⟨rfl, hx, hbd, hgv⟩ := hP
    obtain ⟨scr, harrAt, hlist, hof, hsmall⟩ := hx
    obtain ⟨hcb, hkn, -, -⟩ := State.arrayAt?_spec harrAt
    have hown : s.vm.findClass R_law = some m.cls := findClass_of_methodNamed B.named
    have hts0 : ∀ c ∈ (Jvm.Cond.code x code maxLocals ret :: tables_1), c.before #[Value.ref b] s = true := atoms_spec (ws := Jvm.Cond.code x code maxLocals ret :: tables_1) B.pre
    have hts : ∀ w ∈ lw_tbl, w.before #[Value.ref b] s = true := k2_hts_sels lw_privs (fun w hw => hts0 w (List.mem_cons_of_mem _ hw)) lw_privs_ok
    have hml : c.maxLocals = 4 := B.maxLocals_eq (hts0 _ List.mem_cons_self)
    have X₀ : Stand p l e room_1 s m #[Value.ref b] below meth c s₁ [] 0 0 := Stand.of_body B
    have hh0 : s₁.heap = s.heap := by rw [B.state]; rfl
    have hsz : scr.slots.size = xs.length := by rw [← Array.length_toList, hlist, List.length_map]
    have hval : ∀ j : Nat, j < xs.length → scr.slots[j]? = some (.int (xs.getD j 0)) := fun j hj => by
      rw [← Array.getElem?_toList, hlist]
      simp [hj]
    have hbl : b < s.heap.size := (Array.getElem?_eq_some_iff.mp hcb).1
    have hX : va_X b xs.length (fun j => xs.getD j 0) s s.heap := ⟨scr, hcb, hof, hkn, hsz, hval⟩
    have K : W p l e room_1 s m #[Value.ref b] below meth c s₁.heap [] 0 0 (lw_Z below #[Value.ref b] s) (entryFrame m ([Value.ref b] : List Value).toArray 4) := by
      rw [hh0]
      exact whole_start l hbd ⟨B.exec, B.bytes, B.returns, hml, hown, hts, hX, hbl, B.notSynchronized, hgv⟩
    obtain ⟨t, a1, o, b1, b2, b3⟩ := K s₁ rfl X₀
    exact ⟨t, o, a1, b1, b2, b3⟩
theorem lw_pre_spec {args : Array Value} {s : State} (h : (Jvm.Cond.and given_1 narrow_1).before args s = true) (hr : rest_1_c.before args s = true) : ∃ (b : Addr) (xs : List Int32), lw_P b xs args s := by
  have hs := flat_of_before _ h
  have hq := flat_of_before _ hr
  have hc : (Cond.count 1).before args s = true := hs _ (by decide +kernel)
  have harr : (Cond.arrayOf (.arg 0) .int).before args s = true := hs _ (by decide +kernel)
  have hle : (Cond.le (.length (.arg 0)) (.int 320)).before args s = true := hs _ (by decide +kernel)
  have hlen : (Cond.isInt (.length (.arg 0))).before args s = true := hq _ (by decide +kernel)
  have hall : (Cond.all (.arg 0) (.isInt (.elem (.arg 0) (.index 0)))).before args s = true := hq _ (by decide +kernel)
  obtain ⟨b, xs, hb, hx⟩ := State.ints_of_pre rfl harr hlen hall
  have hsm : xs.length < 2 ^ 31 := hx.choose_spec.2.2.2
  have hev : (Term.length (.arg 0)).eval args s none [] s = some (.int xs.length.toInt32) := hx.length_eval hb
  have hv := Cond.le_ints hev (show (Term.int 320).eval args s none [] s = some (.int 320) from rfl)
  have hd : xs.length.toInt32 ≤ 320 := by
    simpa [Cond.before, Cond.holds, hv] using hle
  have hN : xs.length ≤ 320 := (Int32.ofNat_le_ofNat hsm (by decide)).mp (show Int32.ofNat xs.length ≤ Int32.ofNat 320 from hd)
  exact ⟨b, xs, Cond.one_arg hc (show args[0]? = some (.ref b) from hb), hx, hN, h⟩
theorem lw_comes (l : Launch) : Comes l x (Jvm.Cond.code x code maxLocals ret :: tables_1) room_1 (fun tb e args s => Calls_1 tb e args s ∧ rest_1 tb e args s ∧ Pre_1 tb e args s)
    (fun _ _ args s o t => lw_Q args s o t) := by
  intro p e ha hc hk s m args below hf hfit hheap happ hpre
  obtain ⟨b, xs, hP⟩ := lw_pre_spec hpre.2.2 hpre.2.1
  obtain ⟨k, o, h1, h2, h3, hQ⟩ := lw_walk l b xs p e ha hc hk s m args below hf ((Spec.applies_iff_loose hf).mp happ).1 hP trivial
  exact ⟨k, o, h1, h2, h3, hQ⟩
theorem lw_frame {s t : State} {o : Outcome} {args : Array Value} (h : Framed s o t [] 600000 7302250) :
    Framed s o t (fieldLocs frame_1_writes args s ++ arrayLocs frame_1_arrays args s ++ staticLocs frame_1_statics s) 600000 7302250 := h
theorem lw_limb (L : Cond) (hL : ∀ (args : Array Value) (s t : State), L.after args s (.returned (some (.int 1))) t = true) :
    ArmFor flags0 classFile x code maxLocals ret World_1 tables_1 room_1 Calls_1 rest_1 Pre_1
      (fun tb e a s o t => postC L tb e a s o t ∧ Framed s o t (fieldLocs frame_1_writes a s ++ arrayLocs frame_1_arrays a s ++ staticLocs frame_1_statics s) 600000 7302250) := by
  intro l _ _ _ p e ha hc hk s m args below hf hfit hheap happ hpre
  obtain ⟨k, o, h1, h2, h3, rfl, hF⟩ := lw_comes l p e ha hc hk s m args below hf hfit hheap happ hpre
  exact ⟨k, _, h1, h2, h3, hL args s _, lw_frame hF⟩
theorem i_vc : Claimed_1_1 ∧ Claimed_1_2 := ⟨lw_limb limb_1_1 (fun args s t => by simp [limb_1_1, Cond.after, Cond.holds, Cond.value]), lw_limb limb_1_2 (fun args s t => Cond.after_iff.mpr (by
  first | (rw [show limb_1_2 = Cond.eq .result (.int 1) from rfl, Cond.eq_ints (x := 1) (y := 1) rfl rfl]; simp; done) | (simp [limb_1_2, Cond.value, Term.eval]; done)))⟩
end
