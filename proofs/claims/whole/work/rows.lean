section
-- ===== PART A: goes FIRST, ahead of the names: the tables' words, and 'selects' of the private methods out of them =====
/-- a private method of a class that the tables say can be made, by its rows of tables_1 -/
def lw_okq (q : MethodName × Nat) : Prop := (q.1.cls ≠ "java/lang/invoke/MethodHandle" ∧ q.1.cls ≠ "java/lang/invoke/VarHandle") ∧ Cond.instantiable q.1.cls q.2 ∈ tables_1 ∧ Cond.privateMethod q.1 ∈ tables_1 ∧ Cond.instanceMethod q.1 ∈ tables_1
theorem lw_p0 : lw_okq (⟨"ChairPast", "found", "(I)I"⟩, 12) := ⟨⟨by decide +kernel, by decide +kernel⟩, List.mem_of_getElem? (i := 18) (by decide +kernel), List.mem_of_getElem? (i := 308) (by decide +kernel), List.mem_of_getElem? (i := 309) (by decide +kernel)⟩
theorem lw_p1 : lw_okq (⟨"ChairPast", "sound", "(I)I"⟩, 12) := ⟨⟨by decide +kernel, by decide +kernel⟩, List.mem_of_getElem? (i := 18) (by decide +kernel), List.mem_of_getElem? (i := 321) (by decide +kernel), List.mem_of_getElem? (i := 322) (by decide +kernel)⟩
theorem lw_p2 : lw_okq (⟨"ChairPast", "isMissing", "(I)Z"⟩, 12) := ⟨⟨by decide +kernel, by decide +kernel⟩, List.mem_of_getElem? (i := 18) (by decide +kernel), List.mem_of_getElem? (i := 329) (by decide +kernel), List.mem_of_getElem? (i := 330) (by decide +kernel)⟩
theorem lw_p3 : lw_okq (⟨"ChairPast$Reader", "readLaw", "()V"⟩, 5) := ⟨⟨by decide +kernel, by decide +kernel⟩, List.mem_of_getElem? (i := 194) (by decide +kernel), List.mem_of_getElem? (i := 368) (by decide +kernel), List.mem_of_getElem? (i := 369) (by decide +kernel)⟩
theorem lw_p4 : lw_okq (⟨"ChairPast$Reader", "readSign", "(I)V"⟩, 5) := ⟨⟨by decide +kernel, by decide +kernel⟩, List.mem_of_getElem? (i := 194) (by decide +kernel), List.mem_of_getElem? (i := 372) (by decide +kernel), List.mem_of_getElem? (i := 373) (by decide +kernel)⟩
theorem lw_p5 : lw_okq (⟨"ChairPast$Reader", "ahead", "()I"⟩, 5) := ⟨⟨by decide +kernel, by decide +kernel⟩, List.mem_of_getElem? (i := 194) (by decide +kernel), List.mem_of_getElem? (i := 376) (by decide +kernel), List.mem_of_getElem? (i := 377) (by decide +kernel)⟩
theorem lw_p6 : lw_okq (⟨"ChairPast$Reader", "byteAt", "(I)I"⟩, 5) := ⟨⟨by decide +kernel, by decide +kernel⟩, List.mem_of_getElem? (i := 194) (by decide +kernel), List.mem_of_getElem? (i := 380) (by decide +kernel), List.mem_of_getElem? (i := 381) (by decide +kernel)⟩
theorem lw_p7 : lw_okq (⟨"ChairPast$Reader", "fail", "(I)V"⟩, 5) := ⟨⟨by decide +kernel, by decide +kernel⟩, List.mem_of_getElem? (i := 194) (by decide +kernel), List.mem_of_getElem? (i := 389) (by decide +kernel), List.mem_of_getElem? (i := 390) (by decide +kernel)⟩
theorem lw_p8 : lw_okq (⟨"ChairPast$Reader", "readNumber", "(II)I"⟩, 5) := ⟨⟨by decide +kernel, by decide +kernel⟩, List.mem_of_getElem? (i := 194) (by decide +kernel), List.mem_of_getElem? (i := 393) (by decide +kernel), List.mem_of_getElem? (i := 394) (by decide +kernel)⟩
theorem lw_p9 : lw_okq (⟨"ChairPast$Reader", "readChairs", "()V"⟩, 5) := ⟨⟨by decide +kernel, by decide +kernel⟩, List.mem_of_getElem? (i := 194) (by decide +kernel), List.mem_of_getElem? (i := 400) (by decide +kernel), List.mem_of_getElem? (i := 401) (by decide +kernel)⟩
theorem lw_p10 : lw_okq (⟨"ChairPast$Reader", "readChair", "()V"⟩, 5) := ⟨⟨by decide +kernel, by decide +kernel⟩, List.mem_of_getElem? (i := 194) (by decide +kernel), List.mem_of_getElem? (i := 407) (by decide +kernel), List.mem_of_getElem? (i := 408) (by decide +kernel)⟩
theorem lw_p11 : lw_okq (⟨"ChairPast$Reader", "readGuests", "()V"⟩, 5) := ⟨⟨by decide +kernel, by decide +kernel⟩, List.mem_of_getElem? (i := 194) (by decide +kernel), List.mem_of_getElem? (i := 416) (by decide +kernel), List.mem_of_getElem? (i := 417) (by decide +kernel)⟩
theorem lw_p12 : lw_okq (⟨"ChairPast$Reader", "readGuest", "()V"⟩, 5) := ⟨⟨by decide +kernel, by decide +kernel⟩, List.mem_of_getElem? (i := 194) (by decide +kernel), List.mem_of_getElem? (i := 420) (by decide +kernel), List.mem_of_getElem? (i := 421) (by decide +kernel)⟩
theorem lw_p13 : lw_okq (⟨"ChairPast", "forgetActs", "()V"⟩, 12) := ⟨⟨by decide +kernel, by decide +kernel⟩, List.mem_of_getElem? (i := 18) (by decide +kernel), List.mem_of_getElem? (i := 480) (by decide +kernel), List.mem_of_getElem? (i := 481) (by decide +kernel)⟩
theorem lw_p14 : lw_okq (⟨"ChairPast", "keepAct", "()V"⟩, 12) := ⟨⟨by decide +kernel, by decide +kernel⟩, List.mem_of_getElem? (i := 18) (by decide +kernel), List.mem_of_getElem? (i := 509) (by decide +kernel), List.mem_of_getElem? (i := 510) (by decide +kernel)⟩
theorem lw_p15 : lw_okq (⟨"ChairPast$Room", "peaceBehind", "(I)I"⟩, 9) := ⟨⟨by decide +kernel, by decide +kernel⟩, List.mem_of_getElem? (i := 90) (by decide +kernel), List.mem_of_getElem? (i := 600) (by decide +kernel), List.mem_of_getElem? (i := 601) (by decide +kernel)⟩
def lw_privs_1 : List (MethodName × Nat) := [(⟨"ChairPast", "found", "(I)I"⟩, 12), (⟨"ChairPast", "sound", "(I)I"⟩, 12), (⟨"ChairPast", "isMissing", "(I)Z"⟩, 12), (⟨"ChairPast$Reader", "readLaw", "()V"⟩, 5), (⟨"ChairPast$Reader", "readSign", "(I)V"⟩, 5), (⟨"ChairPast$Reader", "ahead", "()I"⟩, 5), (⟨"ChairPast$Reader", "byteAt", "(I)I"⟩, 5), (⟨"ChairPast$Reader", "fail", "(I)V"⟩, 5), (⟨"ChairPast$Reader", "readNumber", "(II)I"⟩, 5), (⟨"ChairPast$Reader", "readChairs", "()V"⟩, 5), (⟨"ChairPast$Reader", "readChair", "()V"⟩, 5), (⟨"ChairPast$Reader", "readGuests", "()V"⟩, 5), (⟨"ChairPast$Reader", "readGuest", "()V"⟩, 5), (⟨"ChairPast", "forgetActs", "()V"⟩, 12), (⟨"ChairPast", "keepAct", "()V"⟩, 12), (⟨"ChairPast$Room", "peaceBehind", "(I)I"⟩, 9)]
theorem lw_r1 : ∀ q ∈ lw_privs_1, lw_okq q := List.forall_mem_cons.mpr ⟨lw_p0, List.forall_mem_cons.mpr ⟨lw_p1, List.forall_mem_cons.mpr ⟨lw_p2, List.forall_mem_cons.mpr ⟨lw_p3, List.forall_mem_cons.mpr ⟨lw_p4, List.forall_mem_cons.mpr ⟨lw_p5, List.forall_mem_cons.mpr ⟨lw_p6, List.forall_mem_cons.mpr ⟨lw_p7, List.forall_mem_cons.mpr ⟨lw_p8, List.forall_mem_cons.mpr ⟨lw_p9, List.forall_mem_cons.mpr ⟨lw_p10, List.forall_mem_cons.mpr ⟨lw_p11, List.forall_mem_cons.mpr ⟨lw_p12, List.forall_mem_cons.mpr ⟨lw_p13, List.forall_mem_cons.mpr ⟨lw_p14, List.forall_mem_cons.mpr ⟨lw_p15, fun _ h => absurd h List.not_mem_nil⟩⟩⟩⟩⟩⟩⟩⟩⟩⟩⟩⟩⟩⟩⟩⟩
theorem lw_p16 : lw_okq (⟨"ChairPast$Room", "isTrio", "(I)Z"⟩, 9) := ⟨⟨by decide +kernel, by decide +kernel⟩, List.mem_of_getElem? (i := 90) (by decide +kernel), List.mem_of_getElem? (i := 607) (by decide +kernel), List.mem_of_getElem? (i := 608) (by decide +kernel)⟩
theorem lw_p17 : lw_okq (⟨"ChairPast$Foresight", "bearOnStool", "(I)I"⟩, 8) := ⟨⟨by decide +kernel, by decide +kernel⟩, List.mem_of_getElem? (i := 223) (by decide +kernel), List.mem_of_getElem? (i := 644) (by decide +kernel), List.mem_of_getElem? (i := 645) (by decide +kernel)⟩
theorem lw_p18 : lw_okq (⟨"ChairPast$Foresight", "startTrial", "()V"⟩, 8) := ⟨⟨by decide +kernel, by decide +kernel⟩, List.mem_of_getElem? (i := 223) (by decide +kernel), List.mem_of_getElem? (i := 673) (by decide +kernel), List.mem_of_getElem? (i := 674) (by decide +kernel)⟩
theorem lw_p19 : lw_okq (⟨"ChairPast$Foresight", "seatFrom", "(I)V"⟩, 8) := ⟨⟨by decide +kernel, by decide +kernel⟩, List.mem_of_getElem? (i := 223) (by decide +kernel), List.mem_of_getElem? (i := 679) (by decide +kernel), List.mem_of_getElem? (i := 680) (by decide +kernel)⟩
theorem lw_p20 : lw_okq (⟨"ChairPast$Foresight", "weighTrial", "()V"⟩, 8) := ⟨⟨by decide +kernel, by decide +kernel⟩, List.mem_of_getElem? (i := 223) (by decide +kernel), List.mem_of_getElem? (i := 683) (by decide +kernel), List.mem_of_getElem? (i := 684) (by decide +kernel)⟩
theorem lw_p21 : lw_okq (⟨"ChairPast$Foresight", "spellSitters", "(II)V"⟩, 8) := ⟨⟨by decide +kernel, by decide +kernel⟩, List.mem_of_getElem? (i := 223) (by decide +kernel), List.mem_of_getElem? (i := 704) (by decide +kernel), List.mem_of_getElem? (i := 705) (by decide +kernel)⟩
theorem lw_p22 : lw_okq (⟨"ChairPast$Foresight", "bearingBehind", "(III)I"⟩, 8) := ⟨⟨by decide +kernel, by decide +kernel⟩, List.mem_of_getElem? (i := 223) (by decide +kernel), List.mem_of_getElem? (i := 709) (by decide +kernel), List.mem_of_getElem? (i := 710) (by decide +kernel)⟩
theorem lw_p23 : lw_okq (⟨"ChairPast", "findingOf", "(III)I"⟩, 12) := ⟨⟨by decide +kernel, by decide +kernel⟩, List.mem_of_getElem? (i := 18) (by decide +kernel), List.mem_of_getElem? (i := 758) (by decide +kernel), List.mem_of_getElem? (i := 759) (by decide +kernel)⟩
theorem lw_p24 : lw_okq (⟨"ChairPast$Foresight", "ownGives", "(I[II)Z"⟩, 8) := ⟨⟨by decide +kernel, by decide +kernel⟩, List.mem_of_getElem? (i := 223) (by decide +kernel), List.mem_of_getElem? (i := 766) (by decide +kernel), List.mem_of_getElem? (i := 767) (by decide +kernel)⟩
theorem lw_p25 : lw_okq (⟨"ChairPast$Foresight", "alterStool", "(II)V"⟩, 8) := ⟨⟨by decide +kernel, by decide +kernel⟩, List.mem_of_getElem? (i := 223) (by decide +kernel), List.mem_of_getElem? (i := 778) (by decide +kernel), List.mem_of_getElem? (i := 779) (by decide +kernel)⟩
theorem lw_p26 : lw_okq (⟨"ChairPast$Foresight", "stoolGives", "([II)Z"⟩, 8) := ⟨⟨by decide +kernel, by decide +kernel⟩, List.mem_of_getElem? (i := 223) (by decide +kernel), List.mem_of_getElem? (i := 782) (by decide +kernel), List.mem_of_getElem? (i := 783) (by decide +kernel)⟩
theorem lw_p27 : lw_okq (⟨"ChairPast$Foresight", "peaceIfRecaned", "(I)I"⟩, 8) := ⟨⟨by decide +kernel, by decide +kernel⟩, List.mem_of_getElem? (i := 223) (by decide +kernel), List.mem_of_getElem? (i := 794) (by decide +kernel), List.mem_of_getElem? (i := 795) (by decide +kernel)⟩
theorem lw_p28 : lw_okq (⟨"ChairPast$Foresight", "weightOf", "(II)I"⟩, 8) := ⟨⟨by decide +kernel, by decide +kernel⟩, List.mem_of_getElem? (i := 223) (by decide +kernel), List.mem_of_getElem? (i := 803) (by decide +kernel), List.mem_of_getElem? (i := 804) (by decide +kernel)⟩
theorem lw_p29 : lw_okq (⟨"ChairPast$Foresight", "drawnBearing", "(J)I"⟩, 8) := ⟨⟨by decide +kernel, by decide +kernel⟩, List.mem_of_getElem? (i := 223) (by decide +kernel), List.mem_of_getElem? (i := 821) (by decide +kernel), List.mem_of_getElem? (i := 822) (by decide +kernel)⟩
theorem lw_p30 : lw_okq (⟨"ChairPast", "rowsThere", "()I"⟩, 12) := ⟨⟨by decide +kernel, by decide +kernel⟩, List.mem_of_getElem? (i := 18) (by decide +kernel), List.mem_of_getElem? (i := 910) (by decide +kernel), List.mem_of_getElem? (i := 911) (by decide +kernel)⟩
theorem lw_p31 : lw_okq (⟨"ChairPastModel", "found", "(I)I"⟩, 24) := ⟨⟨by decide +kernel, by decide +kernel⟩, List.mem_of_getElem? (i := 920) (by decide +kernel), List.mem_of_getElem? (i := 1012) (by decide +kernel), List.mem_of_getElem? (i := 1013) (by decide +kernel)⟩
def lw_privs_2 : List (MethodName × Nat) := [(⟨"ChairPast$Room", "isTrio", "(I)Z"⟩, 9), (⟨"ChairPast$Foresight", "bearOnStool", "(I)I"⟩, 8), (⟨"ChairPast$Foresight", "startTrial", "()V"⟩, 8), (⟨"ChairPast$Foresight", "seatFrom", "(I)V"⟩, 8), (⟨"ChairPast$Foresight", "weighTrial", "()V"⟩, 8), (⟨"ChairPast$Foresight", "spellSitters", "(II)V"⟩, 8), (⟨"ChairPast$Foresight", "bearingBehind", "(III)I"⟩, 8), (⟨"ChairPast", "findingOf", "(III)I"⟩, 12), (⟨"ChairPast$Foresight", "ownGives", "(I[II)Z"⟩, 8), (⟨"ChairPast$Foresight", "alterStool", "(II)V"⟩, 8), (⟨"ChairPast$Foresight", "stoolGives", "([II)Z"⟩, 8), (⟨"ChairPast$Foresight", "peaceIfRecaned", "(I)I"⟩, 8), (⟨"ChairPast$Foresight", "weightOf", "(II)I"⟩, 8), (⟨"ChairPast$Foresight", "drawnBearing", "(J)I"⟩, 8), (⟨"ChairPast", "rowsThere", "()I"⟩, 12), (⟨"ChairPastModel", "found", "(I)I"⟩, 24)]
theorem lw_r2 : ∀ q ∈ lw_privs_2, lw_okq q := List.forall_mem_cons.mpr ⟨lw_p16, List.forall_mem_cons.mpr ⟨lw_p17, List.forall_mem_cons.mpr ⟨lw_p18, List.forall_mem_cons.mpr ⟨lw_p19, List.forall_mem_cons.mpr ⟨lw_p20, List.forall_mem_cons.mpr ⟨lw_p21, List.forall_mem_cons.mpr ⟨lw_p22, List.forall_mem_cons.mpr ⟨lw_p23, List.forall_mem_cons.mpr ⟨lw_p24, List.forall_mem_cons.mpr ⟨lw_p25, List.forall_mem_cons.mpr ⟨lw_p26, List.forall_mem_cons.mpr ⟨lw_p27, List.forall_mem_cons.mpr ⟨lw_p28, List.forall_mem_cons.mpr ⟨lw_p29, List.forall_mem_cons.mpr ⟨lw_p30, List.forall_mem_cons.mpr ⟨lw_p31, fun _ h => absurd h List.not_mem_nil⟩⟩⟩⟩⟩⟩⟩⟩⟩⟩⟩⟩⟩⟩⟩⟩
theorem lw_p32 : lw_okq (⟨"ChairPastModel", "well", "(I)I"⟩, 24) := ⟨⟨by decide +kernel, by decide +kernel⟩, List.mem_of_getElem? (i := 920) (by decide +kernel), List.mem_of_getElem? (i := 1017) (by decide +kernel), List.mem_of_getElem? (i := 1018) (by decide +kernel)⟩
theorem lw_p33 : lw_okq (⟨"ChairPastModel", "isMissing", "(I)Z"⟩, 24) := ⟨⟨by decide +kernel, by decide +kernel⟩, List.mem_of_getElem? (i := 920) (by decide +kernel), List.mem_of_getElem? (i := 1025) (by decide +kernel), List.mem_of_getElem? (i := 1026) (by decide +kernel)⟩
theorem lw_p34 : lw_okq (⟨"ChairPastModel", "isPart", "(III)Z"⟩, 24) := ⟨⟨by decide +kernel, by decide +kernel⟩, List.mem_of_getElem? (i := 920) (by decide +kernel), List.mem_of_getElem? (i := 1036) (by decide +kernel), List.mem_of_getElem? (i := 1037) (by decide +kernel)⟩
theorem lw_p35 : lw_okq (⟨"ChairPastModel", "advances", "()V"⟩, 24) := ⟨⟨by decide +kernel, by decide +kernel⟩, List.mem_of_getElem? (i := 920) (by decide +kernel), List.mem_of_getElem? (i := 1053) (by decide +kernel), List.mem_of_getElem? (i := 1054) (by decide +kernel)⟩
theorem lw_p36 : lw_okq (⟨"ChairPastModel", "byteAt", "(I)I"⟩, 24) := ⟨⟨by decide +kernel, by decide +kernel⟩, List.mem_of_getElem? (i := 920) (by decide +kernel), List.mem_of_getElem? (i := 1057) (by decide +kernel), List.mem_of_getElem? (i := 1058) (by decide +kernel)⟩
theorem lw_p37 : lw_okq (⟨"ChairPastModel", "takes", "(ZI)I"⟩, 24) := ⟨⟨by decide +kernel, by decide +kernel⟩, List.mem_of_getElem? (i := 920) (by decide +kernel), List.mem_of_getElem? (i := 1061) (by decide +kernel), List.mem_of_getElem? (i := 1062) (by decide +kernel)⟩
theorem lw_p38 : lw_okq (⟨"ChairPastModel", "isWell", "()Z"⟩, 24) := ⟨⟨by decide +kernel, by decide +kernel⟩, List.mem_of_getElem? (i := 920) (by decide +kernel), List.mem_of_getElem? (i := 1065) (by decide +kernel), List.mem_of_getElem? (i := 1066) (by decide +kernel)⟩
theorem lw_p39 : lw_okq (⟨"ChairPastModel", "figure", "(II)I"⟩, 24) := ⟨⟨by decide +kernel, by decide +kernel⟩, List.mem_of_getElem? (i := 920) (by decide +kernel), List.mem_of_getElem? (i := 1069) (by decide +kernel), List.mem_of_getElem? (i := 1070) (by decide +kernel)⟩
theorem lw_p40 : lw_okq (⟨"ChairPastModel", "must", "(Z)V"⟩, 24) := ⟨⟨by decide +kernel, by decide +kernel⟩, List.mem_of_getElem? (i := 920) (by decide +kernel), List.mem_of_getElem? (i := 1076) (by decide +kernel), List.mem_of_getElem? (i := 1077) (by decide +kernel)⟩
theorem lw_p41 : lw_okq (⟨"ChairPastModel", "readsChair", "()V"⟩, 24) := ⟨⟨by decide +kernel, by decide +kernel⟩, List.mem_of_getElem? (i := 920) (by decide +kernel), List.mem_of_getElem? (i := 1080) (by decide +kernel), List.mem_of_getElem? (i := 1081) (by decide +kernel)⟩
theorem lw_p42 : lw_okq (⟨"ChairPastModel", "follows", "(II)I"⟩, 24) := ⟨⟨by decide +kernel, by decide +kernel⟩, List.mem_of_getElem? (i := 920) (by decide +kernel), List.mem_of_getElem? (i := 1084) (by decide +kernel), List.mem_of_getElem? (i := 1085) (by decide +kernel)⟩
theorem lw_p43 : lw_okq (⟨"ChairPastModel", "readsGuest", "()V"⟩, 24) := ⟨⟨by decide +kernel, by decide +kernel⟩, List.mem_of_getElem? (i := 920) (by decide +kernel), List.mem_of_getElem? (i := 1088) (by decide +kernel), List.mem_of_getElem? (i := 1089) (by decide +kernel)⟩
theorem lw_p44 : lw_okq (⟨"ChairPastModel", "isGuest", "(I)Z"⟩, 24) := ⟨⟨by decide +kernel, by decide +kernel⟩, List.mem_of_getElem? (i := 920) (by decide +kernel), List.mem_of_getElem? (i := 1104) (by decide +kernel), List.mem_of_getElem? (i := 1105) (by decide +kernel)⟩
theorem lw_p45 : lw_okq (⟨"ChairPastModel", "isChair", "(I)Z"⟩, 24) := ⟨⟨by decide +kernel, by decide +kernel⟩, List.mem_of_getElem? (i := 920) (by decide +kernel), List.mem_of_getElem? (i := 1108) (by decide +kernel), List.mem_of_getElem? (i := 1109) (by decide +kernel)⟩
theorem lw_p46 : lw_okq (⟨"ChairPastModel", "notes", "()V"⟩, 24) := ⟨⟨by decide +kernel, by decide +kernel⟩, List.mem_of_getElem? (i := 920) (by decide +kernel), List.mem_of_getElem? (i := 1116) (by decide +kernel), List.mem_of_getElem? (i := 1117) (by decide +kernel)⟩
theorem lw_p47 : lw_okq (⟨"ChairPastModel", "isRoom", "()Z"⟩, 24) := ⟨⟨by decide +kernel, by decide +kernel⟩, List.mem_of_getElem? (i := 920) (by decide +kernel), List.mem_of_getElem? (i := 1166) (by decide +kernel), List.mem_of_getElem? (i := 1167) (by decide +kernel)⟩
def lw_privs_3 : List (MethodName × Nat) := [(⟨"ChairPastModel", "well", "(I)I"⟩, 24), (⟨"ChairPastModel", "isMissing", "(I)Z"⟩, 24), (⟨"ChairPastModel", "isPart", "(III)Z"⟩, 24), (⟨"ChairPastModel", "advances", "()V"⟩, 24), (⟨"ChairPastModel", "byteAt", "(I)I"⟩, 24), (⟨"ChairPastModel", "takes", "(ZI)I"⟩, 24), (⟨"ChairPastModel", "isWell", "()Z"⟩, 24), (⟨"ChairPastModel", "figure", "(II)I"⟩, 24), (⟨"ChairPastModel", "must", "(Z)V"⟩, 24), (⟨"ChairPastModel", "readsChair", "()V"⟩, 24), (⟨"ChairPastModel", "follows", "(II)I"⟩, 24), (⟨"ChairPastModel", "readsGuest", "()V"⟩, 24), (⟨"ChairPastModel", "isGuest", "(I)Z"⟩, 24), (⟨"ChairPastModel", "isChair", "(I)Z"⟩, 24), (⟨"ChairPastModel", "notes", "()V"⟩, 24), (⟨"ChairPastModel", "isRoom", "()Z"⟩, 24)]
theorem lw_r3 : ∀ q ∈ lw_privs_3, lw_okq q := List.forall_mem_cons.mpr ⟨lw_p32, List.forall_mem_cons.mpr ⟨lw_p33, List.forall_mem_cons.mpr ⟨lw_p34, List.forall_mem_cons.mpr ⟨lw_p35, List.forall_mem_cons.mpr ⟨lw_p36, List.forall_mem_cons.mpr ⟨lw_p37, List.forall_mem_cons.mpr ⟨lw_p38, List.forall_mem_cons.mpr ⟨lw_p39, List.forall_mem_cons.mpr ⟨lw_p40, List.forall_mem_cons.mpr ⟨lw_p41, List.forall_mem_cons.mpr ⟨lw_p42, List.forall_mem_cons.mpr ⟨lw_p43, List.forall_mem_cons.mpr ⟨lw_p44, List.forall_mem_cons.mpr ⟨lw_p45, List.forall_mem_cons.mpr ⟨lw_p46, List.forall_mem_cons.mpr ⟨lw_p47, fun _ h => absurd h List.not_mem_nil⟩⟩⟩⟩⟩⟩⟩⟩⟩⟩⟩⟩⟩⟩⟩⟩
theorem lw_p48 : lw_okq (⟨"ChairPastModel", "seats", "()Z"⟩, 24) := ⟨⟨by decide +kernel, by decide +kernel⟩, List.mem_of_getElem? (i := 920) (by decide +kernel), List.mem_of_getElem? (i := 1178) (by decide +kernel), List.mem_of_getElem? (i := 1179) (by decide +kernel)⟩
theorem lw_p49 : lw_okq (⟨"ChairPastModel", "counts", "(II)Z"⟩, 24) := ⟨⟨by decide +kernel, by decide +kernel⟩, List.mem_of_getElem? (i := 920) (by decide +kernel), List.mem_of_getElem? (i := 1182) (by decide +kernel), List.mem_of_getElem? (i := 1183) (by decide +kernel)⟩
theorem lw_p50 : lw_okq (⟨"ChairPastModel", "isLeft", "(III)Z"⟩, 24) := ⟨⟨by decide +kernel, by decide +kernel⟩, List.mem_of_getElem? (i := 920) (by decide +kernel), List.mem_of_getElem? (i := 1198) (by decide +kernel), List.mem_of_getElem? (i := 1199) (by decide +kernel)⟩
theorem lw_p51 : lw_okq (⟨"ChairPastModel", "sitDown", "()V"⟩, 24) := ⟨⟨by decide +kernel, by decide +kernel⟩, List.mem_of_getElem? (i := 920) (by decide +kernel), List.mem_of_getElem? (i := 1221) (by decide +kernel), List.mem_of_getElem? (i := 1222) (by decide +kernel)⟩
theorem lw_p52 : lw_okq (⟨"ChairPastModel", "kindIn", "(I)I"⟩, 24) := ⟨⟨by decide +kernel, by decide +kernel⟩, List.mem_of_getElem? (i := 920) (by decide +kernel), List.mem_of_getElem? (i := 1244) (by decide +kernel), List.mem_of_getElem? (i := 1245) (by decide +kernel)⟩
theorem lw_p53 : lw_okq (⟨"ChairPastModel", "throneSize", "(I)I"⟩, 24) := ⟨⟨by decide +kernel, by decide +kernel⟩, List.mem_of_getElem? (i := 920) (by decide +kernel), List.mem_of_getElem? (i := 1256) (by decide +kernel), List.mem_of_getElem? (i := 1257) (by decide +kernel)⟩
theorem lw_p54 : lw_okq (⟨"ChairPastModel", "begins", "(I)V"⟩, 24) := ⟨⟨by decide +kernel, by decide +kernel⟩, List.mem_of_getElem? (i := 920) (by decide +kernel), List.mem_of_getElem? (i := 1260) (by decide +kernel), List.mem_of_getElem? (i := 1261) (by decide +kernel)⟩
theorem lw_p55 : lw_okq (⟨"ChairPastModel", "plainSize", "(I)I"⟩, 24) := ⟨⟨by decide +kernel, by decide +kernel⟩, List.mem_of_getElem? (i := 920) (by decide +kernel), List.mem_of_getElem? (i := 1264) (by decide +kernel), List.mem_of_getElem? (i := 1265) (by decide +kernel)⟩
theorem lw_p56 : lw_okq (⟨"ChairPastModel", "plainMark", "(I)I"⟩, 24) := ⟨⟨by decide +kernel, by decide +kernel⟩, List.mem_of_getElem? (i := 920) (by decide +kernel), List.mem_of_getElem? (i := 1268) (by decide +kernel), List.mem_of_getElem? (i := 1269) (by decide +kernel)⟩
theorem lw_p57 : lw_okq (⟨"ChairPastModel", "throneMark", "(I)I"⟩, 24) := ⟨⟨by decide +kernel, by decide +kernel⟩, List.mem_of_getElem? (i := 920) (by decide +kernel), List.mem_of_getElem? (i := 1272) (by decide +kernel), List.mem_of_getElem? (i := 1273) (by decide +kernel)⟩
theorem lw_p58 : lw_okq (⟨"ChairPastModel", "sitting", "()I"⟩, 24) := ⟨⟨by decide +kernel, by decide +kernel⟩, List.mem_of_getElem? (i := 920) (by decide +kernel), List.mem_of_getElem? (i := 1284) (by decide +kernel), List.mem_of_getElem? (i := 1285) (by decide +kernel)⟩
theorem lw_p59 : lw_okq (⟨"ChairPastModel", "takenChairs", "()I"⟩, 24) := ⟨⟨by decide +kernel, by decide +kernel⟩, List.mem_of_getElem? (i := 920) (by decide +kernel), List.mem_of_getElem? (i := 1288) (by decide +kernel), List.mem_of_getElem? (i := 1289) (by decide +kernel)⟩
def lw_privs_4 : List (MethodName × Nat) := [(⟨"ChairPastModel", "seats", "()Z"⟩, 24), (⟨"ChairPastModel", "counts", "(II)Z"⟩, 24), (⟨"ChairPastModel", "isLeft", "(III)Z"⟩, 24), (⟨"ChairPastModel", "sitDown", "()V"⟩, 24), (⟨"ChairPastModel", "kindIn", "(I)I"⟩, 24), (⟨"ChairPastModel", "throneSize", "(I)I"⟩, 24), (⟨"ChairPastModel", "begins", "(I)V"⟩, 24), (⟨"ChairPastModel", "plainSize", "(I)I"⟩, 24), (⟨"ChairPastModel", "plainMark", "(I)I"⟩, 24), (⟨"ChairPastModel", "throneMark", "(I)I"⟩, 24), (⟨"ChairPastModel", "sitting", "()I"⟩, 24), (⟨"ChairPastModel", "takenChairs", "()I"⟩, 24)]
theorem lw_r4 : ∀ q ∈ lw_privs_4, lw_okq q := List.forall_mem_cons.mpr ⟨lw_p48, List.forall_mem_cons.mpr ⟨lw_p49, List.forall_mem_cons.mpr ⟨lw_p50, List.forall_mem_cons.mpr ⟨lw_p51, List.forall_mem_cons.mpr ⟨lw_p52, List.forall_mem_cons.mpr ⟨lw_p53, List.forall_mem_cons.mpr ⟨lw_p54, List.forall_mem_cons.mpr ⟨lw_p55, List.forall_mem_cons.mpr ⟨lw_p56, List.forall_mem_cons.mpr ⟨lw_p57, List.forall_mem_cons.mpr ⟨lw_p58, List.forall_mem_cons.mpr ⟨lw_p59, fun _ h => absurd h List.not_mem_nil⟩⟩⟩⟩⟩⟩⟩⟩⟩⟩⟩⟩
def lw_privs : List (MethodName × Nat) := lw_privs_1 ++ (lw_privs_2 ++ (lw_privs_3 ++ (lw_privs_4)))
def lw_tbl : List Cond := k2_sels lw_privs ++ tables_1
theorem lw_privs_ok : ∀ q ∈ lw_privs, lw_okq q := by
  show ∀ q ∈ lw_privs_1 ++ (lw_privs_2 ++ (lw_privs_3 ++ (lw_privs_4))), lw_okq q
  exact List.forall_mem_append.mpr ⟨lw_r1, List.forall_mem_append.mpr ⟨lw_r2, List.forall_mem_append.mpr ⟨lw_r3, lw_r4⟩⟩⟩
end
section
def RX0 : String := "ChairPast$Barbers"
def TX0 : u_T := fun k => match k with
  | _ => ("", "", "", false)
def tyX0 : Nat → FieldType := fun k => match k with
  | _ => .int
theorem nmX0 : ∀ a, a < 0 → ∀ b, b < 0 → a ≠ b → (TX0 a).2.1 ≠ (TX0 b).2.1 := by decide +kernel
theorem tyX0_ok : ∀ k, k < 0 → parseFieldDescriptor (TX0 k).2.2.1 = some (tyX0 k) := by decide +kernel
def RX1 : String := "ChairPast$Chair"
def TX1 : u_T := fun k => match k with
  | 0 => ("ChairPast$Chair", "kind", "LChairPast$Kind;", false)
  | 1 => ("ChairPast$Chair", "manner", "I", false)
  | 2 => ("ChairPast$Chair", "strength", "I", false)
  | 3 => ("ChairPast$Chair", "suite", "I", false)
  | 4 => ("ChairPast$Chair", "sat", "I", false)
  | _ => ("ChairPast$Chair", "sitter", "I", false)
def tyX1 : Nat → FieldType := fun k => match k with
  | 0 => .object "ChairPast$Kind"
  | 1 => .int
  | 2 => .int
  | 3 => .int
  | 4 => .int
  | _ => .int
theorem nmX1 : ∀ a, a < 6 → ∀ b, b < 6 → a ≠ b → (TX1 a).2.1 ≠ (TX1 b).2.1 := by decide +kernel
theorem tyX1_ok : ∀ k, k < 6 → parseFieldDescriptor (TX1 k).2.2.1 = some (tyX1 k) := by decide +kernel
def RX2 : String := "ChairPast$Dentists"
def TX2 : u_T := fun k => match k with
  | _ => ("", "", "", false)
def tyX2 : Nat → FieldType := fun k => match k with
  | _ => .int
theorem nmX2 : ∀ a, a < 0 → ∀ b, b < 0 → a ≠ b → (TX2 a).2.1 ≠ (TX2 b).2.1 := by decide +kernel
theorem tyX2_ok : ∀ k, k < 0 → parseFieldDescriptor (TX2 k).2.2.1 = some (tyX2 k) := by decide +kernel
def RX3 : String := "ChairPast$Foresight"
def TX3 : u_T := fun k => match k with
  | 0 => ("ChairPast$Foresight", "now", "LChairPast$Room;", true)
  | 1 => ("ChairPast$Foresight", "trial", "LChairPast$Room;", true)
  | 2 => ("ChairPast$Foresight", "kinds", "[LChairPast$Kind;", true)
  | 3 => ("ChairPast$Foresight", "stool", "LChairPast$Chair;", true)
  | 4 => ("ChairPast$Foresight", "page", "LChairPast$Line;", true)
  | 5 => ("ChairPast$Foresight", "sitters", "[I", true)
  | 6 => ("ChairPast$Foresight", "bestPlaces", "[I", true)
  | _ => ("ChairPast$Foresight", "bestPeace", "I", false)
def tyX3 : Nat → FieldType := fun k => match k with
  | 0 => .object "ChairPast$Room"
  | 1 => .object "ChairPast$Room"
  | 2 => .array (.object "ChairPast$Kind")
  | 3 => .object "ChairPast$Chair"
  | 4 => .object "ChairPast$Line"
  | 5 => .array .int
  | 6 => .array .int
  | _ => .int
theorem nmX3 : ∀ a, a < 8 → ∀ b, b < 8 → a ≠ b → (TX3 a).2.1 ≠ (TX3 b).2.1 := by decide +kernel
theorem tyX3_ok : ∀ k, k < 8 → parseFieldDescriptor (TX3 k).2.2.1 = some (tyX3 k) := by decide +kernel
def RX4 : String := "ChairPast$Kind"
def TX4 : u_T := fun k => match k with
  | _ => ("", "", "", false)
def tyX4 : Nat → FieldType := fun k => match k with
  | _ => .int
theorem nmX4 : ∀ a, a < 0 → ∀ b, b < 0 → a ≠ b → (TX4 a).2.1 ≠ (TX4 b).2.1 := by decide +kernel
theorem tyX4_ok : ∀ k, k < 0 → parseFieldDescriptor (TX4 k).2.2.1 = some (tyX4 k) := by decide +kernel
def RX5 : String := "ChairPast$Line"
def TX5 : u_T := fun k => match k with
  | 0 => ("ChairPast$Line", "items", "[I", true)
  | 1 => ("ChairPast$Line", "size", "I", false)
  | _ => ("ChairPast$Line", "mark", "I", false)
def tyX5 : Nat → FieldType := fun k => match k with
  | 0 => .array .int
  | 1 => .int
  | _ => .int
theorem nmX5 : ∀ a, a < 3 → ∀ b, b < 3 → a ≠ b → (TX5 a).2.1 ≠ (TX5 b).2.1 := by decide +kernel
theorem tyX5_ok : ∀ k, k < 3 → parseFieldDescriptor (TX5 k).2.2.1 = some (tyX5 k) := by decide +kernel
def RX6 : String := "ChairPast$Plain"
def TX6 : u_T := fun k => match k with
  | _ => ("", "", "", false)
def tyX6 : Nat → FieldType := fun k => match k with
  | _ => .int
theorem nmX6 : ∀ a, a < 0 → ∀ b, b < 0 → a ≠ b → (TX6 a).2.1 ≠ (TX6 b).2.1 := by decide +kernel
theorem tyX6_ok : ∀ k, k < 0 → parseFieldDescriptor (TX6 k).2.2.1 = some (tyX6 k) := by decide +kernel
def RX7 : String := "ChairPast$Reader"
def TX7 : u_T := fun k => match k with
  | 0 => ("ChairPast$Reader", "tape", "LChairPast$Line;", true)
  | 1 => ("ChairPast$Reader", "page", "LChairPast$Line;", true)
  | 2 => ("ChairPast$Reader", "draft", "LChairPast$Room;", true)
  | 3 => ("ChairPast$Reader", "at", "I", false)
  | _ => ("ChairPast$Reader", "mistake", "I", false)
def tyX7 : Nat → FieldType := fun k => match k with
  | 0 => .object "ChairPast$Line"
  | 1 => .object "ChairPast$Line"
  | 2 => .object "ChairPast$Room"
  | 3 => .int
  | _ => .int
theorem nmX7 : ∀ a, a < 5 → ∀ b, b < 5 → a ≠ b → (TX7 a).2.1 ≠ (TX7 b).2.1 := by decide +kernel
theorem tyX7_ok : ∀ k, k < 5 → parseFieldDescriptor (TX7 k).2.2.1 = some (tyX7 k) := by decide +kernel
def RX8 : String := "ChairPast$Rocker"
def TX8 : u_T := fun k => match k with
  | _ => ("", "", "", false)
def tyX8 : Nat → FieldType := fun k => match k with
  | _ => .int
theorem nmX8 : ∀ a, a < 0 → ∀ b, b < 0 → a ≠ b → (TX8 a).2.1 ≠ (TX8 b).2.1 := by decide +kernel
theorem tyX8_ok : ∀ k, k < 0 → parseFieldDescriptor (TX8 k).2.2.1 = some (tyX8 k) := by decide +kernel
def RX9 : String := "ChairPast$Room"
def TX9 : u_T := fun k => match k with
  | 0 => ("ChairPast$Room", "kinds", "[LChairPast$Kind;", true)
  | 1 => ("ChairPast$Room", "chairs", "[LChairPast$Chair;", true)
  | 2 => ("ChairPast$Room", "own", "[I", true)
  | 3 => ("ChairPast$Room", "will", "[I", true)
  | 4 => ("ChairPast$Room", "place", "[I", true)
  | 5 => ("ChairPast$Room", "bearing", "[I", true)
  | 6 => ("ChairPast$Room", "chairCount", "I", false)
  | 7 => ("ChairPast$Room", "guestCount", "I", false)
  | _ => ("ChairPast$Room", "strife", "I", false)
def tyX9 : Nat → FieldType := fun k => match k with
  | 0 => .array (.object "ChairPast$Kind")
  | 1 => .array (.object "ChairPast$Chair")
  | 2 => .array .int
  | 3 => .array .int
  | 4 => .array .int
  | 5 => .array .int
  | 6 => .int
  | 7 => .int
  | _ => .int
theorem nmX9 : ∀ a, a < 9 → ∀ b, b < 9 → a ≠ b → (TX9 a).2.1 ≠ (TX9 b).2.1 := by decide +kernel
theorem tyX9_ok : ∀ k, k < 9 → parseFieldDescriptor (TX9 k).2.2.1 = some (tyX9 k) := by decide +kernel
def RX10 : String := "ChairPast$Throne"
def TX10 : u_T := fun k => match k with
  | _ => ("", "", "", false)
def tyX10 : Nat → FieldType := fun k => match k with
  | _ => .int
theorem nmX10 : ∀ a, a < 0 → ∀ b, b < 0 → a ≠ b → (TX10 a).2.1 ≠ (TX10 b).2.1 := by decide +kernel
theorem tyX10_ok : ∀ k, k < 0 → parseFieldDescriptor (TX10 k).2.2.1 = some (tyX10 k) := by decide +kernel
def RX11 : String := "ChairPast"
def TX11 : u_T := fun k => match k with
  | 0 => ("ChairPast", "rows", "[LChairPast$Line;", true)
  | 1 => ("ChairPast", "lanes", "[I", true)
  | 2 => ("ChairPast", "bodies", "LChairPast$Line;", true)
  | 3 => ("ChairPast", "images", "[LChairPast$Line;", true)
  | 4 => ("ChairPast", "acts", "[LChairPast$Line;", true)
  | 5 => ("ChairPast", "now", "LChairPast$Room;", true)
  | 6 => ("ChairPast", "reader", "LChairPast$Reader;", true)
  | 7 => ("ChairPast", "foresight", "LChairPast$Foresight;", true)
  | 8 => ("ChairPast", "oldestAct", "I", false)
  | 9 => ("ChairPast", "actsKept", "I", false)
  | 10 => ("ChairPast", "latestFault", "I", false)
  | _ => ("ChairPast", "latestFinding", "I", false)
def tyX11 : Nat → FieldType := fun k => match k with
  | 0 => .array (.object "ChairPast$Line")
  | 1 => .array .int
  | 2 => .object "ChairPast$Line"
  | 3 => .array (.object "ChairPast$Line")
  | 4 => .array (.object "ChairPast$Line")
  | 5 => .object "ChairPast$Room"
  | 6 => .object "ChairPast$Reader"
  | 7 => .object "ChairPast$Foresight"
  | 8 => .int
  | 9 => .int
  | 10 => .int
  | _ => .int
theorem nmX11 : ∀ a, a < 12 → ∀ b, b < 12 → a ≠ b → (TX11 a).2.1 ≠ (TX11 b).2.1 := by decide +kernel
theorem tyX11_ok : ∀ k, k < 12 → parseFieldDescriptor (TX11 k).2.2.1 = some (tyX11 k) := by decide +kernel
def RX12 : String := "ChairPastModel"
def TX12 : u_T := fun k => match k with
  | 0 => ("ChairPastModel", "lane", "[I", true)
  | 1 => ("ChairPastModel", "many", "[I", true)
  | 2 => ("ChairPastModel", "items", "[I", true)
  | 3 => ("ChairPastModel", "spare", "[I", true)
  | 4 => ("ChairPastModel", "status", "I", false)
  | 5 => ("ChairPastModel", "tape", "[I", true)
  | 6 => ("ChairPastModel", "taped", "I", false)
  | 7 => ("ChairPastModel", "faultKind", "I", false)
  | 8 => ("ChairPastModel", "faultPlace", "I", false)
  | 9 => ("ChairPastModel", "at", "I", false)
  | 10 => ("ChairPastModel", "start", "I", false)
  | 11 => ("ChairPastModel", "token", "I", false)
  | 12 => ("ChairPastModel", "value", "I", false)
  | 13 => ("ChairPastModel", "now", "[I", true)
  | 14 => ("ChairPastModel", "draft", "[I", true)
  | 15 => ("ChairPastModel", "tried", "[I", true)
  | 16 => ("ChairPastModel", "past", "[I", true)
  | 17 => ("ChairPastModel", "acts", "I", false)
  | 18 => ("ChairPastModel", "images", "[I", true)
  | 19 => ("ChairPastModel", "kept", "[Z", true)
  | 20 => ("ChairPastModel", "line", "[I", true)
  | 21 => ("ChairPastModel", "best", "[I", true)
  | 22 => ("ChairPastModel", "trace", "[I", true)
  | _ => ("ChairPastModel", "traced", "I", false)
def tyX12 : Nat → FieldType := fun k => match k with
  | 0 => .array .int
  | 1 => .array .int
  | 2 => .array .int
  | 3 => .array .int
  | 4 => .int
  | 5 => .array .int
  | 6 => .int
  | 7 => .int
  | 8 => .int
  | 9 => .int
  | 10 => .int
  | 11 => .int
  | 12 => .int
  | 13 => .array .int
  | 14 => .array .int
  | 15 => .array .int
  | 16 => .array .int
  | 17 => .int
  | 18 => .array .int
  | 19 => .array .boolean
  | 20 => .array .int
  | 21 => .array .int
  | 22 => .array .int
  | _ => .int
theorem nmX12 : ∀ a, a < 24 → ∀ b, b < 24 → a ≠ b → (TX12 a).2.1 ≠ (TX12 b).2.1 := by decide +kernel
theorem tyX12_ok : ∀ k, k < 24 → parseFieldDescriptor (TX12 k).2.2.1 = some (tyX12 k) := by decide +kernel
def RJ6 : String := "java/lang/Integer"
def RJ9 : String := "java/lang/Math"
def RJ10 : String := "java/lang/System"

abbrev jcl : List vw_C := [(RX0, TX0, 0), (RX1, TX1, 6), (RX2, TX2, 0), (RX3, TX3, 8), (RX5, TX5, 3), (RX6, TX6, 0), (RX7, TX7, 5), (RX8, TX8, 0), (RX9, TX9, 9), (RX10, TX10, 0), (RX11, TX11, 12), (RX12, TX12, 24)]

def oN (o : Nat) : String := match o with
  | 0 => RX0
  | 1 => RX1
  | 2 => RX2
  | 3 => RX3
  | 4 => RX4
  | 5 => RX5
  | 6 => RX6
  | 7 => RX7
  | 8 => RX8
  | 9 => RX9
  | 10 => RX10
  | 11 => RX11
  | 12 => RX12
  | 13 => RJ6
  | _ => RJ9

abbrev jM : Type := MethodName × ByteArray × Nat × Option FieldType × Nat × Nat

def mTl0 : List jM := [
  (⟨RX0, "<init>", "()V"⟩, prog_2_method_1_code, 1, none, 0, 0),
  (⟨RX0, "number", "()I"⟩, prog_2_method_2_code, 1, (some .int), 0, 0),
  (⟨RX0, "bearingOn", "(LChairPast$Chair;I)I"⟩, prog_2_method_3_code, 3, (some .int), 0, 2),
  (⟨RX0, "wear", "(LChairPast$Chair;)V"⟩, prog_2_method_4_code, 2, none, 0, 1),
  (⟨RX0, "markOf", "(LChairPast$Chair;LChairPast$Line;)I"⟩, prog_2_method_5_code, 3, (some .int), 0, 2),
  (⟨RX0, "mannerAfter", "(I)I"⟩, prog_2_method_6_code, 1, (some .int), 0, 1),
  (⟨RX1, "<init>", "(LChairPast$Kind;)V"⟩, prog_3_method_1_code, 2, none, 1, 1),
  (⟨RX1, "bearingOf", "(I)I"⟩, prog_3_method_2_code, 2, (some .int), 1, 1),
  (⟨RX1, "bear", "(II)I"⟩, prog_3_method_3_code, 4, (some .int), 1, 2),
  (⟨RX1, "isLike", "(II)Z"⟩, prog_3_method_4_code, 3, (some .boolean), 1, 2),
  (⟨RX1, "takeAfter", "(LChairPast$Chair;)V"⟩, prog_3_method_5_code, 2, none, 1, 1),
  (⟨RX1, "writeTo", "(LChairPast$Line;)V"⟩, prog_3_method_6_code, 2, none, 1, 1),
  (⟨RX1, "readFrom", "(LChairPast$Line;[LChairPast$Kind;)V"⟩, prog_3_method_7_code, 4, none, 1, 2),
  (⟨RX2, "<init>", "()V"⟩, prog_4_method_1_code, 1, none, 2, 0),
  (⟨RX2, "number", "()I"⟩, prog_4_method_2_code, 1, (some .int), 2, 0),
  (⟨RX2, "bearingOn", "(LChairPast$Chair;I)I"⟩, prog_4_method_3_code, 3, (some .int), 2, 2),
  (⟨RX2, "sizeOf", "(LChairPast$Chair;LChairPast$Line;)I"⟩, prog_4_method_4_code, 3, (some .int), 2, 2),
  (⟨RX3, "<init>", "(LChairPast$Room;[LChairPast$Kind;)V"⟩, prog_5_method_1_code, 3, none, 3, 2),
  (⟨RX3, "startTrial", "()V"⟩, prog_5_method_2_code, 1, none, 3, 0),
  (⟨RX3, "bearOnStool", "(I)I"⟩, prog_5_method_3_code, 2, (some .int), 3, 1),
  (⟨RX3, "wouldBe", "(III)I"⟩, prog_5_method_4_code, 5, (some .int), 3, 3),
  (⟨RX3, "bestSeating", "(I)I"⟩, prog_5_method_5_code, 4, (some .int), 3, 1),
  (⟨RX3, "seatFrom", "(I)V"⟩, prog_5_method_6_code, 3, none, 3, 1),
  (⟨RX3, "weighTrial", "()V"⟩, prog_5_method_7_code, 3, none, 3, 0),
  (⟨RX3, "fewestSittings", "(III)I"⟩, prog_5_method_8_code, 7, (some .int), 3, 3),
  (⟨RX3, "sitterOf", "(I)I"⟩, prog_5_method_9_code, 2, (some .int), 3, 1),
  (⟨RX3, "spellSitters", "(II)V"⟩, prog_5_method_10_code, 6, none, 3, 2),
  (⟨RX3, "bearingBehind", "(III)I"⟩, prog_5_method_11_code, 5, (some .int), 3, 3),
  (⟨RX3, "sittingsToOwn", "(II)I"⟩, prog_5_method_12_code, 4, (some .int), 3, 2),
  (⟨RX3, "sittersLeaving", "(III)I"⟩, prog_5_method_13_code, 6, (some .int), 3, 3),
  (⟨RX3, "pairsLeaving", "(III)I"⟩, prog_5_method_14_code, 7, (some .int), 3, 3),
  (⟨RX3, "ownsBy", "([II)I"⟩, prog_5_method_15_code, 5, (some .int), 3, 2),
  (⟨RX3, "ownGives", "(I[II)Z"⟩, prog_5_method_16_code, 5, (some .boolean), 3, 3),
  (⟨RX3, "fitsBy", "(I[III)I"⟩, prog_5_method_17_code, 9, (some .int), 3, 4),
  (⟨RX3, "alterStool", "(II)V"⟩, prog_5_method_18_code, 3, none, 3, 2),
  (⟨RX3, "stoolGives", "([II)Z"⟩, prog_5_method_19_code, 4, (some .boolean), 3, 2),
  (⟨RX3, "chanceOfPeace", "(III)I"⟩, prog_5_method_20_code, 7, (some .int), 3, 3),
  (⟨RX3, "peaceIfRecaned", "(I)I"⟩, prog_5_method_21_code, 4, (some .int), 3, 1),
  (⟨RX3, "weightOf", "(II)I"⟩, prog_5_method_22_code, 5, (some .int), 3, 2),
  (⟨RX3, "commonDivisor", "(II)I"⟩, prog_5_method_23_code, 6, (some .int), 3, 2),
  (⟨RX3, "eveningOf", "(III)I"⟩, prog_5_method_24_code, 8, (some .int), 3, 3),
  (⟨RX3, "drawnBearing", "(J)I"⟩, prog_5_method_25_code, 5, (some .int), 3, 1),
  (⟨RX4, "<init>", "()V"⟩, prog_6_method_1_code, 1, none, 4, 0),
  (⟨RX4, "sizeOf", "(LChairPast$Chair;LChairPast$Line;)I"⟩, prog_6_method_5_code, 3, (some .int), 4, 2),
  (⟨RX4, "markOf", "(LChairPast$Chair;LChairPast$Line;)I"⟩, prog_6_method_6_code, 3, (some .int), 4, 2),
  (⟨RX5, "<init>", "(I)V"⟩, prog_7_method_1_code, 2, none, 5, 1),
  (⟨RX5, "clear", "()V"⟩, prog_7_method_2_code, 1, none, 5, 0),
  (⟨RX5, "push", "(I)Z"⟩, prog_7_method_3_code, 2, (some .boolean), 5, 1),
  (⟨RX5, "numberAt", "(I)I"⟩, prog_7_method_4_code, 2, (some .int), 5, 1),
  (⟨RX5, "holds", "(II)Z"⟩, prog_7_method_5_code, 3, (some .boolean), 5, 2),
  (⟨RX5, "rewind", "()V"⟩, prog_7_method_6_code, 1, none, 5, 0),
  (⟨RX5, "next", "()I"⟩, prog_7_method_7_code, 1, (some .int), 5, 0),
  (⟨RX6, "<init>", "()V"⟩, prog_8_method_1_code, 1, none, 6, 0),
  (⟨RX6, "number", "()I"⟩, prog_8_method_2_code, 1, (some .int), 6, 0),
  (⟨RX6, "bearingOn", "(LChairPast$Chair;I)I"⟩, prog_8_method_3_code, 3, (some .int), 6, 2),
  (⟨RX6, "wear", "(LChairPast$Chair;)V"⟩, prog_8_method_4_code, 2, none, 6, 1),
  (⟨RX6, "sizeOf", "(LChairPast$Chair;LChairPast$Line;)I"⟩, prog_8_method_5_code, 4, (some .int), 6, 2),
  (⟨RX6, "markOf", "(LChairPast$Chair;LChairPast$Line;)I"⟩, prog_8_method_6_code, 3, (some .int), 6, 2),
  (⟨RX6, "blend", "(III)I"⟩, prog_8_method_7_code, 3, (some .int), 6, 3),
  (⟨RX7, "<init>", "([LChairPast$Kind;)V"⟩, prog_9_method_1_code, 2, none, 7, 1)]

def mTl1 : List jM := [
  (⟨RX7, "readTape", "()Z"⟩, prog_9_method_2_code, 1, (some .boolean), 7, 0),
  (⟨RX7, "draftPage", "()LChairPast$Line;"⟩, prog_9_method_3_code, 1, (some (.object "ChairPast$Line")), 7, 0),
  (⟨RX7, "readLaw", "()V"⟩, prog_9_method_4_code, 1, none, 7, 0),
  (⟨RX7, "readChairs", "()V"⟩, prog_9_method_5_code, 2, none, 7, 0),
  (⟨RX7, "readChair", "()V"⟩, prog_9_method_6_code, 5, none, 7, 0),
  (⟨RX7, "readGuests", "()V"⟩, prog_9_method_7_code, 2, none, 7, 0),
  (⟨RX7, "readGuest", "()V"⟩, prog_9_method_8_code, 3, none, 7, 0),
  (⟨RX7, "readSign", "(I)V"⟩, prog_9_method_9_code, 2, none, 7, 1),
  (⟨RX7, "readNumber", "(II)I"⟩, prog_9_method_10_code, 5, (some .int), 7, 2),
  (⟨RX7, "ahead", "()I"⟩, prog_9_method_11_code, 1, (some .int), 7, 0),
  (⟨RX7, "byteAt", "(I)I"⟩, prog_9_method_12_code, 2, (some .int), 7, 1),
  (⟨RX7, "isFigure", "(I)Z"⟩, prog_9_method_13_code, 1, (some .boolean), 7, 1),
  (⟨RX7, "kindBy", "(I)I"⟩, prog_9_method_14_code, 1, (some .int), 7, 1),
  (⟨RX7, "fail", "(I)V"⟩, prog_9_method_15_code, 2, none, 7, 1),
  (⟨RX8, "<init>", "()V"⟩, prog_10_method_1_code, 1, none, 8, 0),
  (⟨RX8, "number", "()I"⟩, prog_10_method_2_code, 1, (some .int), 8, 0),
  (⟨RX8, "bearingOn", "(LChairPast$Chair;I)I"⟩, prog_10_method_3_code, 3, (some .int), 8, 2),
  (⟨RX8, "sizeOf", "(LChairPast$Chair;LChairPast$Line;)I"⟩, prog_10_method_4_code, 3, (some .int), 8, 2),
  (⟨RX8, "markOf", "(LChairPast$Chair;LChairPast$Line;)I"⟩, prog_10_method_5_code, 3, (some .int), 8, 2),
  (⟨RX9, "<init>", "([LChairPast$Kind;)V"⟩, prog_11_method_1_code, 3, none, 9, 1),
  (⟨RX9, "empty", "()V"⟩, prog_11_method_2_code, 1, none, 9, 0),
  (⟨RX9, "addChair", "(IIII)V"⟩, prog_11_method_3_code, 6, none, 9, 4),
  (⟨RX9, "addGuest", "(II)V"⟩, prog_11_method_4_code, 3, none, 9, 2),
  (⟨RX9, "stands", "()Z"⟩, prog_11_method_5_code, 1, (some .boolean), 9, 0),
  (⟨RX9, "hasChair", "(I)Z"⟩, prog_11_method_6_code, 2, (some .boolean), 9, 1),
  (⟨RX9, "hasGuest", "(I)Z"⟩, prog_11_method_7_code, 2, (some .boolean), 9, 1),
  (⟨RX9, "isSeated", "(I)Z"⟩, prog_11_method_8_code, 2, (some .boolean), 9, 1),
  (⟨RX9, "isTaken", "(I)Z"⟩, prog_11_method_9_code, 2, (some .boolean), 9, 1),
  (⟨RX9, "seatGuest", "(II)V"⟩, prog_11_method_10_code, 3, none, 9, 2),
  (⟨RX9, "putGuest", "(III)V"⟩, prog_11_method_11_code, 4, none, 9, 3),
  (⟨RX9, "liftGuest", "(I)V"⟩, prog_11_method_12_code, 2, none, 9, 1),
  (⟨RX9, "swapWithNext", "(I)V"⟩, prog_11_method_13_code, 4, none, 9, 1),
  (⟨RX9, "peaceNow", "()I"⟩, prog_11_method_14_code, 3, (some .int), 9, 0),
  (⟨RX9, "peaceBehind", "(I)I"⟩, prog_11_method_15_code, 4, (some .int), 9, 1),
  (⟨RX9, "isTrio", "(I)Z"⟩, prog_11_method_16_code, 3, (some .boolean), 9, 1),
  (⟨RX9, "trioCount", "()I"⟩, prog_11_method_17_code, 3, (some .int), 9, 0),
  (⟨RX9, "firstTrio", "()I"⟩, prog_11_method_18_code, 2, (some .int), 9, 0),
  (⟨RX9, "firstFree", "()I"⟩, prog_11_method_19_code, 2, (some .int), 9, 0),
  (⟨RX9, "seatedGuests", "()I"⟩, prog_11_method_20_code, 3, (some .int), 9, 0),
  (⟨RX9, "takenChairs", "()I"⟩, prog_11_method_21_code, 3, (some .int), 9, 0),
  (⟨RX9, "allManners", "()I"⟩, prog_11_method_22_code, 3, (some .int), 9, 0),
  (⟨RX9, "writeTo", "(LChairPast$Line;)V"⟩, prog_11_method_23_code, 3, none, 9, 1),
  (⟨RX9, "readFrom", "(LChairPast$Line;)V"⟩, prog_11_method_24_code, 3, none, 9, 1),
  (⟨RX10, "<init>", "()V"⟩, prog_12_method_1_code, 1, none, 10, 0),
  (⟨RX10, "number", "()I"⟩, prog_12_method_2_code, 1, (some .int), 10, 0),
  (⟨RX10, "bearingOn", "(LChairPast$Chair;I)I"⟩, prog_12_method_3_code, 3, (some .int), 10, 2),
  (⟨RX10, "wear", "(LChairPast$Chair;)V"⟩, prog_12_method_4_code, 2, none, 10, 1),
  (⟨RX10, "sizeOf", "(LChairPast$Chair;LChairPast$Line;)I"⟩, prog_12_method_5_code, 3, (some .int), 10, 2),
  (⟨RX10, "markOf", "(LChairPast$Chair;LChairPast$Line;)I"⟩, prog_12_method_6_code, 4, (some .int), 10, 2),
  (⟨RX11, "<init>", "()V"⟩, prog_1_method_1_code, 4, none, 11, 0),
  (⟨RX11, "row", "(III)I"⟩, prog_1_method_2_code, 5, (some .int), 11, 3),
  (⟨RX11, "set", "(III)I"⟩, prog_1_method_3_code, 4, (some .int), 11, 3),
  (⟨RX11, "copy", "(IIIII)I"⟩, prog_1_method_4_code, 6, (some .int), 11, 5),
  (⟨RX11, "drop", "(I)I"⟩, prog_1_method_5_code, 3, (some .int), 11, 1),
  (⟨RX11, "feed", "(I)I"⟩, prog_1_method_6_code, 2, (some .int), 11, 1),
  (⟨RX11, "room", "()I"⟩, prog_1_method_7_code, 1, (some .int), 11, 0),
  (⟨RX11, "fault", "()I"⟩, prog_1_method_8_code, 1, (some .int), 11, 0),
  (⟨RX11, "sit", "(II)I"⟩, prog_1_method_9_code, 3, (some .int), 11, 2),
  (⟨RX11, "rise", "(I)I"⟩, prog_1_method_10_code, 3, (some .int), 11, 1),
  (⟨RX11, "recane", "(I)I"⟩, prog_1_method_11_code, 3, (some .int), 11, 1)]

def mTl2 : List jM := [
  (⟨RX11, "move", "(I)I"⟩, prog_1_method_12_code, 2, (some .int), 11, 1),
  (⟨RX11, "undo", "()I"⟩, prog_1_method_13_code, 1, (some .int), 11, 0),
  (⟨RX11, "chair", "(II)I"⟩, prog_1_method_14_code, 4, (some .int), 11, 2),
  (⟨RX11, "guest", "(II)I"⟩, prog_1_method_15_code, 3, (some .int), 11, 2),
  (⟨RX11, "peace", "()I"⟩, prog_1_method_16_code, 1, (some .int), 11, 0),
  (⟨RX11, "would", "(III)I"⟩, prog_1_method_17_code, 4, (some .int), 11, 3),
  (⟨RX11, "seating", "(I)I"⟩, prog_1_method_18_code, 2, (some .int), 11, 1),
  (⟨RX11, "warm", "(IIII)I"⟩, prog_1_method_19_code, 6, (some .int), 11, 4),
  (⟨RX11, "pure", "(II)I"⟩, prog_1_method_20_code, 3, (some .int), 11, 2),
  (⟨RX11, "between", "(IIII)I"⟩, prog_1_method_21_code, 5, (some .int), 11, 4),
  (⟨RX11, "trios", "(I)I"⟩, prog_1_method_22_code, 2, (some .int), 11, 1),
  (⟨RX11, "owns", "(III)I"⟩, prog_1_method_23_code, 5, (some .int), 11, 3),
  (⟨RX11, "fits", "(IIII)I"⟩, prog_1_method_24_code, 6, (some .int), 11, 4),
  (⟨RX11, "caned", "(III)I"⟩, prog_1_method_25_code, 4, (some .int), 11, 3),
  (⟨RX11, "drawn", "(III)I"⟩, prog_1_method_26_code, 4, (some .int), 11, 3),
  (⟨RX11, "image", "(I)I"⟩, prog_1_method_27_code, 2, (some .int), 11, 1),
  (⟨RX11, "restore", "(I)I"⟩, prog_1_method_28_code, 2, (some .int), 11, 1),
  (⟨RX11, "kind", "(I)I"⟩, prog_1_method_29_code, 2, (some .int), 11, 1),
  (⟨RX11, "as", "(II)I"⟩, prog_1_method_30_code, 3, (some .int), 11, 2),
  (⟨RX11, "ask", "(II)I"⟩, prog_1_method_31_code, 4, (some .int), 11, 2),
  (⟨RX11, "trace", "(I)I"⟩, prog_1_method_32_code, 2, (some .int), 11, 1),
  (⟨RX11, "count", "(I)I"⟩, prog_1_method_33_code, 2, (some .int), 11, 1),
  (⟨RX11, "status", "()I"⟩, prog_1_method_34_code, 1, (some .int), 11, 0),
  (⟨RX11, "within", "(III)Z"⟩, prog_1_method_35_code, 3, (some .boolean), 11, 3),
  (⟨RX11, "isRow", "(I)Z"⟩, prog_1_method_36_code, 1, (some .boolean), 11, 1),
  (⟨RX11, "isMissing", "(I)Z"⟩, prog_1_method_37_code, 2, (some .boolean), 11, 1),
  (⟨RX11, "rowsThere", "()I"⟩, prog_1_method_38_code, 3, (some .int), 11, 0),
  (⟨RX11, "narrowed", "(II)I"⟩, prog_1_method_39_code, 2, (some .int), 11, 2),
  (⟨RX11, "findingOf", "(III)I"⟩, prog_1_method_40_code, 4, (some .int), 11, 3),
  (⟨RX11, "found", "(I)I"⟩, prog_1_method_41_code, 2, (some .int), 11, 1),
  (⟨RX11, "sound", "(I)I"⟩, prog_1_method_42_code, 2, (some .int), 11, 1),
  (⟨RX11, "keepAct", "()V"⟩, prog_1_method_43_code, 1, none, 11, 0),
  (⟨RX11, "forgetActs", "()V"⟩, prog_1_method_44_code, 1, none, 11, 0),
  (⟨RX11, "isOf", "(LChairPast$Kind;I)Z"⟩, prog_1_method_45_code, 2, (some .boolean), 11, 2),
  (⟨RX12, "<init>", "()V"⟩, prog_14_method_1_code, 2, none, 12, 0),
  (⟨RX12, "in", "(III)Z"⟩, prog_14_method_3_code, 3, (some .boolean), 12, 3),
  (⟨RX12, "has", "(II)Z"⟩, prog_14_method_4_code, 2, (some .boolean), 12, 2),
  (⟨RX12, "found", "(I)I"⟩, prog_14_method_5_code, 2, (some .int), 12, 1),
  (⟨RX12, "well", "(I)I"⟩, prog_14_method_6_code, 2, (some .int), 12, 1),
  (⟨RX12, "copies", "([II[II)V"⟩, prog_14_method_7_code, 5, none, 12, 4),
  (⟨RX12, "isRow", "(I)Z"⟩, prog_14_method_8_code, 1, (some .boolean), 12, 1),
  (⟨RX12, "isMissing", "(I)Z"⟩, prog_14_method_9_code, 2, (some .boolean), 12, 1),
  (⟨RX12, "cut", "(II)I"⟩, prog_14_method_10_code, 2, (some .int), 12, 2),
  (⟨RX12, "row", "(III)I"⟩, prog_14_method_11_code, 5, (some .int), 12, 3),
  (⟨RX12, "set", "(III)I"⟩, prog_14_method_12_code, 4, (some .int), 12, 3),
  (⟨RX12, "isPart", "(III)Z"⟩, prog_14_method_13_code, 4, (some .boolean), 12, 3),
  (⟨RX12, "copy", "(IIIII)I"⟩, prog_14_method_14_code, 7, (some .int), 12, 5),
  (⟨RX12, "drop", "(I)I"⟩, prog_14_method_15_code, 2, (some .int), 12, 1),
  (⟨RX12, "feed", "(I)I"⟩, prog_14_method_16_code, 2, (some .int), 12, 1),
  (⟨RX12, "byteAt", "(I)I"⟩, prog_14_method_17_code, 2, (some .int), 12, 1),
  (⟨RX12, "advances", "()V"⟩, prog_14_method_18_code, 2, none, 12, 0),
  (⟨RX12, "isWell", "()Z"⟩, prog_14_method_19_code, 1, (some .boolean), 12, 0),
  (⟨RX12, "takes", "(ZI)I"⟩, prog_14_method_20_code, 4, (some .int), 12, 2),
  (⟨RX12, "figure", "(II)I"⟩, prog_14_method_21_code, 3, (some .int), 12, 2),
  (⟨RX12, "kindOf", "(I)I"⟩, prog_14_method_22_code, 1, (some .int), 12, 1),
  (⟨RX12, "follows", "(II)I"⟩, prog_14_method_23_code, 3, (some .int), 12, 2),
  (⟨RX12, "readsChair", "()V"⟩, prog_14_method_24_code, 6, none, 12, 0),
  (⟨RX12, "readsGuest", "()V"⟩, prog_14_method_25_code, 4, none, 12, 0),
  (⟨RX12, "must", "(Z)V"⟩, prog_14_method_26_code, 2, none, 12, 1),
  (⟨RX12, "room", "()I"⟩, prog_14_method_27_code, 2, (some .int), 12, 0)]

def mTl3 : List jM := [
  (⟨RX12, "fault", "()I"⟩, prog_14_method_28_code, 1, (some .int), 12, 0),
  (⟨RX12, "isRoom", "()Z"⟩, prog_14_method_29_code, 1, (some .boolean), 12, 0),
  (⟨RX12, "isChair", "(I)Z"⟩, prog_14_method_30_code, 2, (some .boolean), 12, 1),
  (⟨RX12, "isGuest", "(I)Z"⟩, prog_14_method_31_code, 2, (some .boolean), 12, 1),
  (⟨RX12, "mixed", "(III)I"⟩, prog_14_method_32_code, 3, (some .int), 12, 3),
  (⟨RX12, "bearing", "([III)I"⟩, prog_14_method_33_code, 5, (some .int), 12, 3),
  (⟨RX12, "sits", "([III)I"⟩, prog_14_method_34_code, 6, (some .int), 12, 3),
  (⟨RX12, "sitter", "([II)I"⟩, prog_14_method_35_code, 3, (some .int), 12, 2),
  (⟨RX12, "puts", "([III)V"⟩, prog_14_method_36_code, 3, none, 12, 3),
  (⟨RX12, "peaceOf", "([I)I"⟩, prog_14_method_37_code, 6, (some .int), 12, 1),
  (⟨RX12, "isTrio", "([II)Z"⟩, prog_14_method_38_code, 3, (some .boolean), 12, 2),
  (⟨RX12, "notes", "()V"⟩, prog_14_method_39_code, 2, none, 12, 0),
  (⟨RX12, "sit", "(II)I"⟩, prog_14_method_40_code, 3, (some .int), 12, 2),
  (⟨RX12, "rise", "(I)I"⟩, prog_14_method_41_code, 4, (some .int), 12, 1),
  (⟨RX12, "recane", "(I)I"⟩, prog_14_method_42_code, 3, (some .int), 12, 1),
  (⟨RX12, "move", "(I)I"⟩, prog_14_method_43_code, 4, (some .int), 12, 1),
  (⟨RX12, "undo", "()I"⟩, prog_14_method_44_code, 1, (some .int), 12, 0),
  (⟨RX12, "chair", "(II)I"⟩, prog_14_method_45_code, 3, (some .int), 12, 2),
  (⟨RX12, "guest", "(II)I"⟩, prog_14_method_46_code, 4, (some .int), 12, 2),
  (⟨RX12, "peace", "()I"⟩, prog_14_method_47_code, 1, (some .int), 12, 0),
  (⟨RX12, "would", "(III)I"⟩, prog_14_method_48_code, 5, (some .int), 12, 3),
  (⟨RX12, "counts", "(II)Z"⟩, prog_14_method_49_code, 4, (some .boolean), 12, 2),
  (⟨RX12, "seats", "()Z"⟩, prog_14_method_50_code, 4, (some .boolean), 12, 0),
  (⟨RX12, "seating", "(I)I"⟩, prog_14_method_51_code, 5, (some .int), 12, 1),
  (⟨RX12, "warm", "(IIII)I"⟩, prog_14_method_52_code, 8, (some .int), 12, 4),
  (⟨RX12, "pure", "(II)I"⟩, prog_14_method_53_code, 5, (some .int), 12, 2),
  (⟨RX12, "isLeft", "(III)Z"⟩, prog_14_method_54_code, 4, (some .boolean), 12, 3),
  (⟨RX12, "between", "(IIII)I"⟩, prog_14_method_55_code, 9, (some .int), 12, 4),
  (⟨RX12, "trios", "(I)I"⟩, prog_14_method_56_code, 5, (some .int), 12, 1),
  (⟨RX12, "owns", "(III)I"⟩, prog_14_method_57_code, 8, (some .int), 12, 3),
  (⟨RX12, "fits", "(IIII)I"⟩, prog_14_method_58_code, 11, (some .int), 12, 4),
  (⟨RX12, "sitDown", "()V"⟩, prog_14_method_59_code, 3, none, 12, 0),
  (⟨RX12, "caned", "(III)I"⟩, prog_14_method_60_code, 9, (some .int), 12, 3),
  (⟨RX12, "drawn", "(III)I"⟩, prog_14_method_61_code, 9, (some .int), 12, 3),
  (⟨RX12, "image", "(I)I"⟩, prog_14_method_62_code, 2, (some .int), 12, 1),
  (⟨RX12, "restore", "(I)I"⟩, prog_14_method_63_code, 2, (some .int), 12, 1),
  (⟨RX12, "kindIn", "(I)I"⟩, prog_14_method_64_code, 2, (some .int), 12, 1),
  (⟨RX12, "kind", "(I)I"⟩, prog_14_method_65_code, 2, (some .int), 12, 1),
  (⟨RX12, "as", "(II)I"⟩, prog_14_method_66_code, 5, (some .int), 12, 2),
  (⟨RX12, "begins", "(I)V"⟩, prog_14_method_67_code, 2, none, 12, 1),
  (⟨RX12, "plainMark", "(I)I"⟩, prog_14_method_68_code, 4, (some .int), 12, 1),
  (⟨RX12, "throneSize", "(I)I"⟩, prog_14_method_69_code, 4, (some .int), 12, 1),
  (⟨RX12, "plainSize", "(I)I"⟩, prog_14_method_70_code, 4, (some .int), 12, 1),
  (⟨RX12, "throneMark", "(I)I"⟩, prog_14_method_71_code, 2, (some .int), 12, 1),
  (⟨RX12, "ask", "(II)I"⟩, prog_14_method_72_code, 4, (some .int), 12, 2),
  (⟨RX12, "trace", "(I)I"⟩, prog_14_method_73_code, 2, (some .int), 12, 1),
  (⟨RX12, "sitting", "()I"⟩, prog_14_method_74_code, 3, (some .int), 12, 0),
  (⟨RX12, "takenChairs", "()I"⟩, prog_14_method_75_code, 3, (some .int), 12, 0),
  (⟨RX12, "count", "(I)I"⟩, prog_14_method_76_code, 4, (some .int), 12, 1),
  (⟨RX12, "status", "()I"⟩, prog_14_method_77_code, 1, (some .int), 12, 0)]

def mTl : List jM := mTl0 ++ (mTl1 ++ (mTl2 ++ (mTl3)))

def mT (m : Nat) : jM := mTl.getD m (⟨"", "", ""⟩, prog_2_method_1_code, 0, none, 0, 0)

def mY (m : Nat) : MethodName := (mT m).1
def mB (m : Nat) : ByteArray := (mT m).2.1
def mL (m : Nat) : Nat := (mT m).2.2.1
def mR (m : Nat) : Option FieldType := (mT m).2.2.2.1
def mO (m : Nat) : Nat := (mT m).2.2.2.2.1
def mP (m : Nat) : Nat := (mT m).2.2.2.2.2

def cQ (c : Nat) : vw_C := jcl.getD c ("", TX0, 0)
def cT (c : Nat) : u_T := (cQ c).2.1
def cN (c : Nat) : String := (cQ c).1
def cF (c : Nat) : Nat := (cQ c).2.2
/-- a field that holds a reference -/
def fR (c k : Nat) : Bool := !((cT c k).2.2.1 == "I")

def tFl : List (Nat × Nat × Nat × Nat × Nat × Nat × Nat) := [(5, 15, 95, 4, 0, 1, 1), (11, 103, 96, 4, 0, 1, 1), (5, 21, 97, 4, 1, 0, 0), (7, 51, 98, 4, 1, 0, 0), (11, 99, 99, 4, 1, 0, 0), (5, 25, 100, 4, 2, 0, 0),
  (1, 16, 163, 1, 0, 1, 0), (9, 47, 164, 1, 0, 1, 0), (3, 170, 165, 1, 0, 1, 0), (11, 277, 166, 1, 0, 1, 0), (0, 9, 167, 1, 1, 0, 0), (6, 9, 168, 1, 1, 0, 0),
  (8, 13, 169, 1, 1, 0, 0), (10, 13, 170, 1, 1, 0, 0), (1, 42, 171, 1, 1, 0, 0), (9, 51, 172, 1, 1, 0, 0), (3, 81, 173, 1, 1, 0, 0), (4, 19, 174, 1, 1, 0, 0),
  (11, 203, 175, 1, 1, 0, 0), (10, 7, 176, 1, 2, 0, 0), (6, 15, 177, 1, 2, 0, 0), (0, 21, 178, 1, 2, 0, 0), (8, 16, 179, 1, 2, 0, 0), (1, 39, 180, 1, 2, 0, 0),
  (9, 54, 181, 1, 2, 0, 0), (3, 85, 182, 1, 2, 0, 0), (11, 185, 183, 1, 2, 0, 0), (9, 57, 184, 1, 3, 0, 0), (4, 13, 185, 1, 3, 0, 0), (1, 45, 186, 1, 3, 0, 0),
  (11, 206, 187, 1, 3, 0, 0), (8, 7, 188, 1, 4, 0, 0), (1, 26, 189, 1, 4, 0, 0), (9, 60, 190, 1, 4, 0, 0), (11, 209, 191, 1, 4, 0, 0), (1, 10, 192, 1, 5, 0, 0),
  (9, 64, 193, 1, 5, 0, 0), (11, 212, 194, 1, 5, 0, 0), (9, 30, 208, 8, 0, 1, 1), (9, 11, 209, 8, 1, 1, 1), (3, 69, 210, 8, 1, 1, 1), (11, 181, 211, 8, 1, 1, 1),
  (9, 17, 212, 8, 2, 1, 1), (3, 59, 213, 8, 2, 1, 1), (11, 215, 214, 8, 2, 1, 1), (9, 21, 215, 8, 3, 1, 1), (3, 62, 216, 8, 3, 1, 1), (11, 218, 217, 8, 3, 1, 1),
  (9, 24, 218, 8, 4, 1, 1), (3, 139, 219, 8, 4, 1, 1), (11, 175, 220, 8, 4, 1, 1), (9, 27, 221, 8, 5, 1, 1), (11, 172, 222, 8, 5, 1, 1), (9, 37, 223, 8, 6, 0, 0),
  (3, 100, 224, 8, 6, 0, 0), (7, 85, 225, 8, 6, 0, 0), (11, 149, 226, 8, 6, 0, 0), (9, 41, 227, 8, 7, 0, 0), (3, 88, 228, 8, 7, 0, 0), (7, 95, 229, 8, 7, 0, 0),
  (11, 260, 230, 8, 7, 0, 0), (9, 44, 231, 8, 8, 0, 0), (7, 71, 232, 8, 8, 0, 0), (11, 307, 233, 8, 8, 0, 0), (7, 14, 263, 6, 0, 1, 1), (11, 120, 264, 6, 0, 1, 1),
  (7, 20, 265, 6, 1, 1, 1), (7, 28, 266, 6, 2, 1, 1), (7, 32, 267, 6, 3, 0, 0), (11, 135, 268, 6, 3, 0, 0), (7, 36, 269, 6, 4, 0, 0), (11, 128, 270, 6, 4, 0, 0),
  (3, 27, 294, 3, 0, 1, 1), (3, 40, 295, 3, 1, 1, 1), (3, 31, 296, 3, 2, 1, 1), (3, 48, 297, 3, 3, 1, 1), (3, 14, 298, 3, 4, 1, 1), (3, 20, 299, 3, 5, 1, 1),
  (3, 24, 300, 3, 6, 1, 1), (3, 110, 301, 3, 7, 0, 0), (11, 11, 319, 10, 0, 1, 1), (11, 15, 320, 10, 1, 1, 1), (11, 22, 321, 10, 2, 1, 1), (11, 26, 322, 10, 3, 1, 1),
  (11, 29, 323, 10, 4, 1, 1), (11, 54, 324, 10, 5, 1, 1), (11, 61, 325, 10, 6, 1, 1), (11, 70, 326, 10, 7, 1, 1), (11, 200, 327, 10, 8, 0, 0), (11, 197, 328, 10, 9, 0, 0),
  (11, 131, 329, 10, 10, 0, 0), (11, 310, 330, 10, 11, 0, 0), (12, 7, 986, 11, 0, 1, 1), (12, 13, 987, 11, 1, 1, 1), (12, 16, 988, 11, 2, 1, 1), (12, 19, 989, 11, 3, 1, 1),
  (12, 54, 990, 11, 4, 0, 0), (12, 22, 991, 11, 5, 1, 1), (12, 85, 992, 11, 6, 0, 0), (12, 111, 993, 11, 7, 0, 0), (12, 104, 994, 11, 8, 0, 0), (12, 89, 995, 11, 9, 0, 0),
  (12, 92, 996, 11, 10, 0, 0), (12, 101, 997, 11, 11, 0, 0), (12, 98, 998, 11, 12, 0, 0), (12, 25, 999, 11, 13, 1, 1), (12, 28, 1000, 11, 14, 1, 1), (12, 31, 1001, 11, 15, 1, 1),
  (12, 34, 1002, 11, 16, 1, 1), (12, 145, 1003, 11, 17, 0, 0), (12, 37, 1004, 11, 18, 1, 1), (12, 40, 1005, 11, 19, 1, 1), (12, 44, 1006, 11, 20, 1, 1), (12, 47, 1007, 11, 21, 1, 1),
  (12, 50, 1008, 11, 22, 1, 1), (12, 212, 1009, 11, 23, 0, 0)]

def tKl : List (Nat × Nat × Nat × Int) := [(1, 9, 162, (-1000000)), (11, 82, 366, (-1000001)), (11, 313, 371, (-1000010)), (11, 123, 414, (-1000003)), (5, 28, 447, (-1000000)), (9, 63, 474, (-1000000)),
  (11, 134, 488, (-1000100)), (11, 164, 567, (-1000002)), (13, 265, 724, 1431655765), (13, 266, 725, 858993459), (13, 267, 726, 252645135), (3, 106, 731, (-1000000)),
  (11, 234, 772, (-1000000)), (11, 270, 873, 999999), (12, 53, 985, (-1000000)), (12, 67, 1070, (-1000001)), (12, 58, 1075, (-1000010)), (12, 88, 1107, (-1000003)),
  (12, 140, 1151, (-1000100)), (12, 173, 1174, (-1000002)), (12, 204, 1288, 999999)]

def tKKl : List (Nat × Nat × Nat × Int) := [(3, 189, 878, 16807), (3, 191, 879, 2147483647), (12, 205, 1289, 16807), (12, 207, 1290, 2147483647)]

def tNl : List (Nat × Nat × Nat × Nat × Nat × Nat) := [(3, 9, 288, 4, 87, 62), (3, 35, 290, 8, 150, 70), (3, 43, 292, 1, 157, 71), (7, 9, 259, 4, 87, 62), (7, 23, 261, 8, 150, 70), (9, 9, 155, 1, 157, 71),
  (11, 9, 85, 4, 87, 62), (11, 34, 111, 5, 112, 65), (11, 37, 121, 7, 122, 66), (11, 40, 128, 0, 129, 67), (11, 43, 135, 9, 136, 68), (11, 46, 142, 2, 143, 69),
  (11, 49, 149, 8, 150, 70), (11, 58, 253, 6, 254, 72), (11, 65, 282, 3, 283, 73)]

def tAl : List (Nat × Nat × Nat × Nat × Nat) := [(9, 9, 155, 54, 156), (11, 9, 85, 52, 86), (11, 32, 109, 53, 110)]

def tOl : List (Nat × Nat × Nat × Nat) := [(11, 34, 111, 6), (11, 37, 121, 8), (11, 40, 128, 0), (11, 43, 135, 10), (11, 46, 142, 2)]

def tSl : List (Nat × Nat × Nat × Nat × Nat × Nat × Nat) := [(0, 15, 5, 587, 588, 67, 0), (0, 24, 58, 590, 592, 65, 591), (3, 180, 39, 866, 867, 73, 0), (6, 18, 58, 604, 592, 65, 0), (7, 78, 72, 463, 464, 72, 0), (7, 105, 71, 456, 457, 72, 0),
  (8, 19, 58, 608, 592, 65, 609), (11, 74, 144, 360, 361, 61, 0), (11, 78, 143, 363, 364, 61, 0), (11, 106, 147, 392, 393, 61, 0), (11, 284, 153, 905, 906, 61, 0), (12, 59, 155, 1067, 1068, 74, 0),
  (12, 63, 160, 1064, 1065, 74, 0), (12, 78, 162, 1088, 1089, 74, 0), (12, 124, 174, 1132, 1133, 74, 0), (12, 141, 159, 1152, 1153, 74, 0), (12, 148, 184, 1188, 1189, 74, 0), (12, 152, 185, 1185, 1186, 74, 0),
  (12, 156, 186, 1182, 1183, 74, 0), (12, 159, 187, 1171, 1172, 74, 0), (12, 163, 190, 1206, 1207, 74, 0), (12, 177, 188, 1179, 1180, 74, 0), (12, 181, 189, 1203, 1204, 74, 0), (12, 198, 156, 1277, 1278, 74, 0)]

def tMl : List (Nat × Nat × Nat × Nat) := [(1, 29, 4, 611), (2, 13, 3, 600), (3, 95, 1, 721), (3, 150, 3, 767), (5, 9, 3, 92), (9, 92, 2, 663),
  (11, 114, 0, 403)]

def tIl : List (Nat × Nat × Nat × Nat × Nat × Nat) := [(3, 11, 45, 289, 89, 62), (3, 37, 79, 291, 152, 70), (3, 45, 6, 293, 159, 71), (7, 11, 45, 260, 89, 62), (7, 25, 79, 262, 152, 70), (9, 34, 6, 158, 159, 71),
  (11, 19, 45, 88, 89, 62), (11, 51, 79, 151, 152, 70), (11, 60, 59, 255, 256, 72), (11, 67, 17, 284, 285, 73)]

def tJl : List (Nat × Nat × Nat × Nat × Nat × Nat) := [(0, 3, 52, 133, 114, 65), (2, 1, 103, 147, 138, 68), (6, 3, 42, 116, 117, 64), (8, 1, 52, 126, 114, 65), (10, 1, 42, 140, 117, 64), (11, 36, 52, 113, 114, 65),
  (11, 39, 74, 123, 124, 66), (11, 42, 0, 130, 131, 67), (11, 45, 103, 137, 138, 68), (11, 48, 13, 144, 145, 69)]

def tBl : List (Nat × Nat × Nat) := [(1, 3, 161), (3, 3, 287), (4, 1, 119), (5, 3, 91), (7, 3, 258), (9, 3, 154),
  (11, 3, 82), (12, 1, 984)]

def tPl : List (Nat × Nat × Nat × Nat × Nat × Nat × Nat × Nat) := [(0, 28, 55, 620, 621, 65, 1356, 134), (0, 38, 57, 928, 921, 65, 923, 134), (2, 7, 105, 597, 598, 68, 1355, 148), (2, 25, 107, 943, 944, 68, 1358, 148), (6, 30, 43, 919, 913, 64, 914, 120), (6, 37, 44, 935, 936, 64, 1357, 120),
  (8, 31, 56, 952, 916, 65, 1359, 127), (8, 35, 57, 933, 921, 65, 923, 127), (10, 22, 43, 947, 913, 64, 914, 141), (10, 26, 44, 958, 936, 64, 1357, 141)]

def tVl : List (Nat × Nat × Nat × Nat × Nat × Nat × Nat × Nat × Nat × Nat × Nat × Nat) := [(0, 32, 1, 4, 47, 927, 378, 377, 62, 0, 0, 0), (1, 20, 2, 5, 54, 581, 601, 602, 65, 1, 583, 582), (1, 20, 2, 7, 76, 581, 605, 606, 66, 1, 583, 582), (1, 20, 2, 0, 2, 581, 584, 585, 67, 1, 583, 582), (1, 20, 2, 9, 105, 581, 610, 598, 68, 1, 583, 582), (1, 20, 2, 2, 15, 581, 594, 595, 69, 1, 583, 582),
  (1, 35, 1, 5, 55, 614, 626, 621, 65, 1, 616, 615), (1, 35, 1, 7, 55, 614, 627, 621, 65, 1, 616, 615), (1, 35, 1, 0, 3, 614, 617, 618, 67, 1, 616, 615), (1, 35, 1, 9, 106, 614, 628, 624, 68, 1, 616, 615), (1, 35, 1, 2, 106, 614, 623, 624, 68, 1, 616, 615), (1, 48, 0, 5, 53, 503, 512, 513, 65, 1, 505, 504),
  (1, 48, 0, 7, 75, 503, 515, 516, 66, 1, 505, 504), (1, 48, 0, 0, 1, 503, 506, 507, 67, 1, 505, 504), (1, 48, 0, 9, 104, 503, 518, 519, 68, 1, 505, 504), (1, 48, 0, 2, 14, 503, 509, 510, 69, 1, 505, 504), (1, 52, 1, 4, 47, 521, 378, 377, 62, 0, 0, 0), (1, 58, 0, 4, 51, 538, 532, 531, 62, 0, 0, 0),
  (2, 19, 1, 4, 47, 942, 378, 377, 62, 0, 0, 0), (3, 52, 1, 8, 101, 736, 495, 494, 70, 0, 0, 0), (3, 56, 1, 8, 102, 737, 524, 523, 70, 0, 0, 0), (3, 65, 2, 1, 8, 707, 579, 578, 71, 0, 0, 0), (3, 73, 1, 1, 10, 699, 701, 700, 71, 0, 0, 0), (3, 77, 1, 3, 19, 703, 17, 705, 73, 0, 0, 0),
  (3, 91, 0, 8, 98, 716, 718, 717, 70, 0, 0, 0), (3, 103, 0, 8, 99, 727, 729, 728, 70, 0, 0, 0), (3, 107, 0, 3, 18, 732, 18, 734, 73, 0, 0, 0), (3, 113, 1, 3, 22, 738, 19, 740, 73, 0, 0, 0), (3, 116, 0, 3, 23, 742, 20, 744, 73, 0, 0, 0), (3, 119, 1, 8, 86, 747, 561, 560, 70, 0, 0, 0),
  (3, 123, 1, 8, 87, 748, 565, 564, 70, 0, 0, 0), (3, 126, 1, 1, 7, 749, 751, 750, 71, 0, 0, 0), (3, 129, 3, 8, 89, 753, 631, 630, 70, 0, 0, 0), (3, 133, 1, 8, 90, 754, 639, 638, 70, 0, 0, 0), (3, 136, 0, 8, 92, 746, 657, 656, 70, 0, 0, 0), (3, 142, 2, 3, 26, 763, 21, 765, 73, 0, 0, 0),
  (3, 146, 3, 3, 27, 768, 22, 770, 73, 0, 0, 0), (3, 155, 2, 1, 9, 793, 795, 794, 71, 0, 0, 0), (3, 159, 3, 3, 32, 825, 24, 827, 73, 0, 0, 0), (3, 163, 2, 3, 34, 837, 25, 839, 73, 0, 0, 0), (3, 166, 2, 3, 35, 841, 26, 843, 73, 0, 0, 0), (3, 174, 1, 3, 37, 853, 27, 855, 73, 0, 0, 0),
  (3, 177, 2, 3, 38, 862, 28, 864, 73, 0, 0, 0), (3, 183, 0, 8, 97, 857, 859, 858, 70, 0, 0, 0), (3, 186, 2, 8, 88, 861, 575, 574, 70, 0, 0, 0), (3, 193, 1, 3, 41, 880, 29, 882, 73, 0, 0, 0), (3, 197, 0, 8, 100, 884, 886, 885, 70, 0, 0, 0), (4, 7, 1, 4, 47, 938, 378, 377, 62, 0, 0, 0),
  (6, 24, 1, 4, 47, 918, 378, 377, 62, 0, 0, 0), (6, 34, 2, 5, 57, 920, 922, 921, 65, 0, 0, 0), (6, 34, 2, 7, 78, 920, 929, 930, 66, 2, 923, 921), (6, 34, 2, 0, 4, 920, 924, 925, 67, 2, 923, 921), (7, 39, 0, 8, 80, 423, 425, 424, 70, 0, 0, 0), (7, 42, 0, 6, 62, 427, 3, 429, 72, 0, 0, 0),
  (7, 45, 0, 6, 63, 459, 9, 461, 72, 0, 0, 0), (7, 48, 0, 6, 65, 475, 11, 477, 72, 0, 0, 0), (7, 54, 1, 6, 73, 448, 7, 450, 72, 0, 0, 0), (7, 57, 0, 4, 46, 487, 374, 373, 62, 0, 0, 0), (7, 60, 1, 8, 101, 493, 495, 494, 70, 0, 0, 0), (7, 64, 1, 6, 67, 431, 4, 433, 72, 0, 0, 0),
  (7, 67, 2, 6, 68, 452, 8, 454, 72, 0, 0, 0), (7, 74, 0, 6, 69, 435, 5, 437, 72, 0, 0, 0), (7, 82, 0, 6, 64, 466, 10, 468, 72, 0, 0, 0), (7, 88, 4, 8, 81, 470, 472, 471, 70, 0, 0, 0), (7, 92, 0, 6, 66, 479, 12, 481, 72, 0, 0, 0), (7, 98, 2, 8, 82, 483, 485, 484, 70, 0, 0, 0),
  (7, 102, 1, 6, 70, 439, 6, 441, 72, 0, 0, 0), (7, 109, 1, 4, 48, 443, 445, 444, 62, 0, 0, 0), (8, 25, 1, 4, 47, 932, 378, 377, 62, 0, 0, 0), (9, 67, 2, 1, 8, 577, 579, 578, 71, 0, 0, 0), (9, 71, 3, 8, 89, 629, 631, 630, 70, 0, 0, 0), (9, 75, 1, 8, 84, 641, 557, 556, 70, 0, 0, 0),
  (9, 79, 1, 8, 85, 654, 553, 552, 70, 0, 0, 0), (9, 82, 1, 8, 93, 659, 15, 661, 70, 0, 0, 0), (9, 86, 1, 8, 94, 666, 16, 668, 70, 0, 0, 0), (9, 89, 1, 8, 87, 670, 565, 564, 70, 0, 0, 0), (9, 97, 1, 8, 86, 720, 561, 560, 70, 0, 0, 0), (9, 100, 0, 4, 46, 497, 374, 373, 62, 0, 0, 0),
  (9, 105, 1, 4, 47, 498, 378, 377, 62, 0, 0, 0), (9, 108, 1, 1, 11, 499, 501, 500, 71, 0, 0, 0), (9, 112, 0, 4, 50, 526, 528, 527, 62, 0, 0, 0), (9, 115, 0, 4, 51, 530, 532, 531, 62, 0, 0, 0), (9, 119, 2, 1, 12, 534, 536, 535, 71, 0, 0, 0), (10, 16, 1, 4, 47, 946, 378, 377, 62, 0, 0, 0),
  (10, 29, 2, 9, 107, 959, 1363, 944, 68, 0, 0, 0), (10, 29, 2, 2, 16, 959, 1362, 940, 69, 2, 1358, 944), (11, 83, 1, 10, 149, 367, 0, 369, 61, 0, 0, 0), (11, 87, 0, 4, 46, 372, 374, 373, 62, 0, 0, 0), (11, 90, 1, 4, 47, 376, 378, 377, 62, 0, 0, 0), (11, 93, 1, 10, 150, 380, 1, 382, 61, 0, 0, 0),
  (11, 96, 1, 10, 145, 388, 2, 390, 61, 0, 0, 0), (11, 110, 2, 4, 49, 399, 401, 400, 62, 0, 0, 0), (11, 124, 0, 6, 60, 419, 421, 420, 72, 0, 0, 0), (11, 138, 0, 6, 61, 489, 491, 490, 72, 0, 0, 0), (11, 142, 1, 8, 102, 522, 524, 523, 70, 0, 0, 0), (11, 146, 0, 10, 152, 539, 13, 541, 61, 0, 0, 0),
  (11, 152, 1, 8, 85, 551, 553, 552, 70, 0, 0, 0), (11, 155, 1, 8, 84, 555, 557, 556, 70, 0, 0, 0), (11, 158, 1, 8, 86, 559, 561, 560, 70, 0, 0, 0), (11, 161, 1, 8, 87, 563, 565, 564, 70, 0, 0, 0), (11, 165, 0, 10, 151, 568, 14, 570, 61, 0, 0, 0), (11, 168, 2, 8, 88, 573, 575, 574, 70, 0, 0, 0),
  (11, 178, 1, 8, 90, 637, 639, 638, 70, 0, 0, 0), (11, 190, 1, 8, 91, 650, 652, 651, 70, 0, 0, 0), (11, 193, 0, 8, 92, 655, 657, 656, 70, 0, 0, 0), (11, 221, 0, 8, 83, 687, 689, 688, 70, 0, 0, 0), (11, 224, 3, 3, 20, 695, 697, 696, 73, 0, 0, 0), (11, 228, 1, 3, 21, 712, 714, 713, 73, 0, 0, 0),
  (11, 231, 3, 3, 24, 759, 761, 760, 73, 0, 0, 0), (11, 235, 1, 3, 25, 773, 775, 774, 73, 0, 0, 0), (11, 238, 2, 3, 28, 781, 783, 782, 73, 0, 0, 0), (11, 241, 3, 3, 29, 789, 791, 790, 73, 0, 0, 0), (11, 244, 3, 3, 30, 797, 799, 798, 73, 0, 0, 0), (11, 247, 0, 8, 95, 805, 807, 806, 70, 0, 0, 0),
  (11, 250, 0, 8, 96, 809, 811, 810, 70, 0, 0, 0), (11, 253, 3, 10, 148, 817, 23, 819, 61, 0, 0, 0), (11, 256, 2, 3, 31, 821, 823, 822, 73, 0, 0, 0), (11, 263, 4, 3, 33, 833, 835, 834, 73, 0, 0, 0), (11, 267, 3, 3, 36, 849, 851, 850, 73, 0, 0, 0), (11, 271, 3, 3, 40, 874, 876, 875, 73, 0, 0, 0),
  (11, 274, 1, 8, 101, 572, 495, 494, 70, 0, 0, 0), (11, 281, 0, 5, 53, 900, 512, 513, 65, 1, 505, 504), (11, 281, 0, 7, 75, 900, 515, 516, 66, 1, 505, 504), (11, 281, 0, 0, 1, 900, 506, 507, 67, 1, 505, 504), (11, 281, 0, 9, 104, 900, 518, 519, 68, 1, 505, 504), (11, 281, 0, 2, 14, 900, 509, 510, 69, 1, 505, 504),
  (11, 288, 2, 5, 56, 912, 948, 916, 65, 2, 914, 913), (11, 288, 2, 7, 77, 912, 949, 950, 66, 2, 914, 913), (11, 288, 2, 0, 56, 912, 915, 916, 65, 2, 914, 913), (11, 288, 2, 9, 107, 912, 953, 944, 68, 2, 914, 913), (11, 288, 2, 2, 16, 912, 939, 940, 69, 2, 914, 913), (11, 292, 2, 5, 57, 955, 1364, 921, 65, 2, 1357, 936),
  (11, 292, 2, 7, 78, 955, 1365, 930, 66, 2, 1357, 936), (11, 292, 2, 0, 4, 955, 1360, 925, 67, 2, 1357, 936), (11, 292, 2, 9, 108, 955, 1366, 956, 68, 2, 1357, 936), (11, 292, 2, 2, 108, 955, 1361, 956, 68, 2, 1357, 936), (11, 295, 1, 4, 48, 964, 445, 444, 62, 0, 0, 0), (11, 298, 0, 10, 146, 969, 30, 971, 61, 0, 0, 0),
  (11, 301, 0, 8, 98, 973, 718, 717, 70, 0, 0, 0), (11, 304, 0, 8, 99, 974, 729, 728, 70, 0, 0, 0), (12, 68, 1, 11, 157, 1071, 31, 1073, 74, 0, 0, 0), (12, 72, 1, 11, 158, 1076, 32, 1078, 74, 0, 0, 0), (12, 75, 1, 11, 161, 1084, 33, 1086, 74, 0, 0, 0), (12, 82, 3, 11, 165, 1095, 34, 1097, 74, 0, 0, 0),
  (12, 95, 1, 11, 169, 1116, 36, 1118, 74, 0, 0, 0), (12, 107, 0, 11, 171, 1124, 38, 1126, 74, 0, 0, 0), (12, 114, 0, 11, 170, 1112, 35, 1114, 74, 0, 0, 0), (12, 117, 2, 11, 172, 1120, 37, 1122, 74, 0, 0, 0), (12, 121, 2, 11, 173, 1128, 39, 1130, 74, 0, 0, 0), (12, 127, 2, 11, 175, 1143, 42, 1145, 74, 0, 0, 0),
  (12, 130, 1, 11, 178, 1135, 40, 1137, 74, 0, 0, 0), (12, 134, 0, 11, 176, 1139, 41, 1141, 74, 0, 0, 0), (12, 137, 0, 11, 177, 1147, 43, 1149, 74, 0, 0, 0), (12, 167, 1, 11, 183, 1163, 44, 1165, 74, 0, 0, 0), (12, 170, 1, 11, 182, 1167, 45, 1169, 74, 0, 0, 0), (12, 174, 0, 11, 191, 1175, 46, 1177, 74, 0, 0, 0),
  (12, 185, 0, 11, 181, 1225, 47, 1227, 74, 0, 0, 0), (12, 188, 0, 11, 202, 1237, 48, 1239, 74, 0, 0, 0), (12, 191, 2, 11, 201, 1241, 49, 1243, 74, 0, 0, 0), (12, 195, 3, 11, 206, 1257, 50, 1259, 74, 0, 0, 0), (12, 201, 0, 11, 211, 1280, 51, 1282, 74, 0, 0, 0), (12, 209, 1, 11, 216, 1303, 52, 1305, 74, 0, 0, 0),
  (12, 215, 1, 11, 219, 1319, 54, 1321, 74, 0, 0, 0), (12, 219, 1, 11, 220, 1327, 56, 1329, 74, 0, 0, 0), (12, 222, 1, 11, 221, 1315, 53, 1317, 74, 0, 0, 0), (12, 225, 1, 11, 222, 1323, 55, 1325, 74, 0, 0, 0), (12, 228, 1, 11, 223, 1331, 57, 1333, 74, 0, 0, 0), (12, 231, 0, 11, 226, 1343, 58, 1345, 74, 0, 0, 0),
  (12, 235, 0, 11, 227, 1347, 59, 1349, 74, 0, 0, 0)]
end
section
/-- the words that stay true whatever has been resolved -/
def jW : List Cond := lw_tbl.filter goodWord

theorem jW_mem {w : Cond} {i : Nat} (h : lw_tbl[i]? = some w) (hg : goodWord w = true) : w ∈ jW := List.mem_filter.mpr ⟨List.mem_of_getElem? h, hg⟩

def mPl : List Nat := [132, 508, 586, 619, 926, 589, 160, 752, 580, 796, 702, 502, 537, 146, 511, 596, 941, 286, 735, 706, 698, 715, 741, 745, 762, 776, 766, 771, 784, 792, 800, 824, 828, 836, 840, 844, 852, 856, 865, 868, 877, 883, 118, 954, 937, 90, 375, 379, 446, 402, 529, 533, 115, 514, 603, 622, 917, 934, 593, 257, 422, 492, 430, 462, 469, 478, 482, 434, 455, 438, 442, 458, 465, 451, 125, 517, 607, 951, 931, 153, 426, 473, 486, 690, 558, 554, 562, 566, 576, 632, 640, 653, 658, 662, 669, 808, 812, 860, 719, 730, 887, 496, 525, 139, 520, 599, 625, 945, 957, 81, 359, 387, 398, 409, 413, 418, 546, 550, 636, 645, 649, 674, 678, 682, 686, 694, 711, 758, 780, 788, 804, 816, 832, 848, 872, 891, 895, 899, 904, 911, 963, 968, 978, 365, 362, 391, 972, 394, 820, 370, 383, 571, 542, 907, 983, 1069, 1279, 1074, 1079, 1154, 1066, 1087, 1090, 1063, 1083, 1098, 1094, 1102, 1106, 1119, 1115, 1127, 1123, 1131, 1134, 1146, 1142, 1150, 1138, 1111, 1158, 1228, 1170, 1166, 1190, 1187, 1184, 1173, 1181, 1205, 1208, 1178, 1162, 1194, 1198, 1202, 1212, 1216, 1220, 1224, 1232, 1244, 1240, 1236, 1248, 1252, 1260, 1256, 1264, 1268, 1272, 1283, 1276, 1287, 1294, 1298, 1306, 1302, 1310, 1322, 1330, 1318, 1326, 1334, 1314, 1338, 1346, 1350, 1342, 1354]

theorem mT_own : (List.range 230).all (fun m => decide ((mY m).cls = oN (mO m)) && decide (mO m < 13)) = true := by decide +kernel

theorem mT_plain : (List.range 13).all (fun o => plainName (oN o) && decide (oN o ≠ "java/lang/invoke/MethodHandle") && decide (oN o ≠ "java/lang/invoke/VarHandle")) = true := by decide +kernel

theorem mT_par : (List.range 230).all (fun m => decide ((parseMethodDescriptor (mY m).desc).map (fun d => d.parameters.length) = some (mP m)) && decide (mL m ≤ 20)) = true := by decide +kernel

theorem tF_ok : tFl.all (fun e => decide (lw_tbl[e.2.2.1]? = some (.fieldLink (oN e.1) e.2.1 (cT e.2.2.2.1 e.2.2.2.2.1).1 (cT e.2.2.2.1 e.2.2.2.2.1).2.1 (cT e.2.2.2.1 e.2.2.2.2.1).2.2.1)) && decide (e.2.2.2.2.1 < cF e.2.2.2.1) && decide (e.2.2.2.1 < 12) && decide (fR e.2.2.2.1 e.2.2.2.2.1 = (e.2.2.2.2.2.1 == 1)) && decide ((cT e.2.2.2.1 e.2.2.2.2.1).2.2.2 = (e.2.2.2.2.2.2 == 1))) = true := by decide +kernel

theorem tK_ok : tKl.all (fun e => decide (lw_tbl[e.2.2.1]? = some (.constant (oN e.1) e.2.1 (Int32.ofInt e.2.2.2)))) = true := by decide +kernel

theorem tKK_ok : tKKl.all (fun e => decide (lw_tbl[e.2.2.1]? = some (.constantLong (oN e.1) e.2.1 (Int64.ofInt e.2.2.2)))) = true := by decide +kernel

theorem tN_ok : tNl.all (fun e => decide (lw_tbl[e.2.2.1]? = some (.classLink (oN e.1) e.2.1 (cN e.2.2.2.1))) && decide (lw_tbl[e.2.2.2.2.1]? = some (.instantiable (cN e.2.2.2.1) (cF e.2.2.2.1))) && decide (lw_tbl[e.2.2.2.2.2]? = some (.initialized (cN e.2.2.2.1))) && decide (e.2.2.2.1 < 12)) = true := by decide +kernel

/-- what an array of a tag holds -/
def aT (t : Nat) : FieldType := if t = 50 then .int else if t = 51 then .boolean else if t = 52 then .object RX5 else if t = 53 then .object RX4 else .object RX1
def aC (t : Nat) : String := if t = 52 then RX5 else if t = 53 then RX4 else RX1

theorem tA_ok : tAl.all (fun e => decide (lw_tbl[e.2.2.1]? = some (.classLink (oN e.1) e.2.1 (aC e.2.2.2.1))) && decide (lw_tbl[e.2.2.2.2]? = some (.arrayOver (.object (aC e.2.2.2.1)))) && decide (52 ≤ e.2.2.2.1) && decide (e.2.2.2.1 ≤ 54)) = true := by decide +kernel

theorem tO_ok : tOl.all (fun e => decide (lw_tbl[e.2.2.1]? = some (.classLink (oN e.1) e.2.1 (oN e.2.2.2)))) = true := by decide +kernel

theorem tS_ok : tSl.all (fun e => decide (lw_tbl[e.2.2.2.1]? = some (.methodLink (oN e.1) e.2.1 (if e.2.2.2.2.2.2 = 0 then mY e.2.2.1 else ⟨oN e.1, (mY e.2.2.1).name, (mY e.2.2.1).desc⟩))) && decide (lw_tbl[e.2.2.2.2.1]? = some (.static (mY e.2.2.1))) && decide (lw_tbl[e.2.2.2.2.2.1]? = some (.initialized (mY e.2.2.1).cls)) && decide (e.2.2.1 < 230) && (e.2.2.2.2.2.2 == 0 || decide (lw_tbl[e.2.2.2.2.2.2]? = some (.sameMethod (oN e.1) (mY e.2.2.1).cls (mY e.2.2.1).name (mY e.2.2.1).desc)))) = true := by decide +kernel

theorem tM_ok : tMl.all (fun e => decide (lw_tbl[e.2.2.2]? = some (.methodLink (oN e.1) e.2.1 (match e.2.2.1 with | 0 => arraycopyName | 1 => ⟨RJ6, "bitCount", "(I)I"⟩ | 2 => Lib.Math.abs.name | 3 => Lib.Math.max.name | _ => Lib.Math.min.name)))) = true := by decide +kernel

theorem tI_ok : tIl.all (fun e => decide (lw_tbl[e.2.2.2.1]? = some (.methodLink (oN e.1) e.2.1 (mY e.2.2.1))) && decide (lw_tbl[e.2.2.2.2.1]? = some (.instanceMethod (mY e.2.2.1))) && decide (lw_tbl[e.2.2.2.2.2]? = some (.initialized (mY e.2.2.1).cls)) && decide (e.2.2.1 < 230) && decide ((mY e.2.2.1).name = "<init>") && decide (mR e.2.2.1 = none)) = true := by decide +kernel

theorem tJ_ok : tJl.all (fun e => decide (lw_tbl[e.2.2.2.1]? = some (.methodLinkNest (oN e.1) e.2.1 (mY e.2.2.1) RX11)) && decide (lw_tbl[e.2.2.2.2.1]? = some (.instanceMethod (mY e.2.2.1))) && decide (lw_tbl[e.2.2.2.2.2]? = some (.initialized (mY e.2.2.1).cls)) && decide (e.2.2.1 < 230) && decide ((mY e.2.2.1).name = "<init>") && decide (mR e.2.2.1 = none)) = true := by decide +kernel

theorem tB_ok : tBl.all (fun e => decide (lw_tbl[e.2.2]? = some (.methodLink (oN e.1) e.2.1 objectInit))) = true := by decide +kernel

theorem tP_ok : tPl.all (fun e => decide (lw_tbl[e.2.2.2.1]? = some (.methodLink (oN e.1) e.2.1 (mY e.2.2.1))) && decide (lw_tbl[e.2.2.2.2.1]? = some (.instanceMethod (mY e.2.2.1))) && decide (lw_tbl[e.2.2.2.2.2.1]? = some (.initialized (mY e.2.2.1).cls)) && decide (lw_tbl[e.2.2.2.2.2.2.1]? = some (.sameMethod (mY e.2.2.1).cls (mY e.2.2.1).cls (mY e.2.2.1).name (mY e.2.2.1).desc)) && decide (lw_tbl[e.2.2.2.2.2.2.2]? = some (.superclass (oN e.1) (mY e.2.2.1).cls)) && decide (e.2.2.1 < 230) && !((mY e.2.2.1).name == "<init>")) = true := by decide +kernel

theorem tV_ok0 : tVl.all (fun e => decide (lw_tbl[e.2.2.2.2.2.2.2.1]? = some (.instanceMethod (mY e.2.2.2.2.1))) && decide (lw_tbl[e.2.2.2.2.2.2.2.2.1]? = some (.initialized (mY e.2.2.2.2.1).cls)) && decide (e.2.2.2.2.1 < 230) && decide (mP e.2.2.2.2.1 = e.2.2.1) && decide (e.2.2.2.1 < 12)) = true := by decide +kernel

theorem tV_ok1 : tVl.all (fun e => !(e.2.2.2.2.2.2.2.2.2.1 == 0) || (decide (lw_tbl[e.2.2.2.2.2.1]? = some (.methodLink (oN e.1) e.2.1 (mY e.2.2.2.2.1))) && decide (lw_tbl[e.2.2.2.2.2.2.1]? = some (.selects (cN e.2.2.2.1) (mY e.2.2.2.2.1) (mY e.2.2.2.2.1))) && decide ((mY e.2.2.2.2.1).cls = cN e.2.2.2.1))) = true := by decide +kernel

/-- the methods that a call may name and another runs: of Kind, Plain, Throne -/
def vX (y : MethodName) (k : Nat) : MethodName := ⟨if k = 0 then RX4 else if k = 1 then RX6 else RX10, y.name, y.desc⟩
end
section
set_option maxRecDepth 100000 in
theorem mc0 : lw_tbl[132]? = some (Cond.code (mY 0) (mB 0) (mL 0) (mR 0)) := rfl
set_option maxRecDepth 100000 in
theorem mc1 : lw_tbl[508]? = some (Cond.code (mY 1) (mB 1) (mL 1) (mR 1)) := rfl
set_option maxRecDepth 100000 in
theorem mc2 : lw_tbl[586]? = some (Cond.code (mY 2) (mB 2) (mL 2) (mR 2)) := rfl
set_option maxRecDepth 100000 in
theorem mc3 : lw_tbl[619]? = some (Cond.code (mY 3) (mB 3) (mL 3) (mR 3)) := rfl
set_option maxRecDepth 100000 in
theorem mc4 : lw_tbl[926]? = some (Cond.code (mY 4) (mB 4) (mL 4) (mR 4)) := rfl
set_option maxRecDepth 100000 in
theorem mc5 : lw_tbl[589]? = some (Cond.code (mY 5) (mB 5) (mL 5) (mR 5)) := rfl
set_option maxRecDepth 100000 in
theorem mc6 : lw_tbl[160]? = some (Cond.code (mY 6) (mB 6) (mL 6) (mR 6)) := rfl
set_option maxRecDepth 100000 in
theorem mc7 : lw_tbl[752]? = some (Cond.code (mY 7) (mB 7) (mL 7) (mR 7)) := rfl
set_option maxRecDepth 100000 in
theorem mc8 : lw_tbl[580]? = some (Cond.code (mY 8) (mB 8) (mL 8) (mR 8)) := rfl
set_option maxRecDepth 100000 in
theorem mc9 : lw_tbl[796]? = some (Cond.code (mY 9) (mB 9) (mL 9) (mR 9)) := rfl
set_option maxRecDepth 100000 in
theorem mc10 : lw_tbl[702]? = some (Cond.code (mY 10) (mB 10) (mL 10) (mR 10)) := rfl
set_option maxRecDepth 100000 in
theorem mc11 : lw_tbl[502]? = some (Cond.code (mY 11) (mB 11) (mL 11) (mR 11)) := rfl
set_option maxRecDepth 100000 in
theorem mc12 : lw_tbl[537]? = some (Cond.code (mY 12) (mB 12) (mL 12) (mR 12)) := rfl
set_option maxRecDepth 100000 in
theorem mc13 : lw_tbl[146]? = some (Cond.code (mY 13) (mB 13) (mL 13) (mR 13)) := rfl
set_option maxRecDepth 100000 in
theorem mc14 : lw_tbl[511]? = some (Cond.code (mY 14) (mB 14) (mL 14) (mR 14)) := rfl
set_option maxRecDepth 100000 in
theorem mc15 : lw_tbl[596]? = some (Cond.code (mY 15) (mB 15) (mL 15) (mR 15)) := rfl
set_option maxRecDepth 100000 in
theorem mc16 : lw_tbl[941]? = some (Cond.code (mY 16) (mB 16) (mL 16) (mR 16)) := rfl
set_option maxRecDepth 100000 in
theorem mc17 : lw_tbl[286]? = some (Cond.code (mY 17) (mB 17) (mL 17) (mR 17)) := rfl
set_option maxRecDepth 100000 in
theorem mc18 : lw_tbl[735]? = some (Cond.code (mY 18) (mB 18) (mL 18) (mR 18)) := rfl
set_option maxRecDepth 100000 in
theorem mc19 : lw_tbl[706]? = some (Cond.code (mY 19) (mB 19) (mL 19) (mR 19)) := rfl
set_option maxRecDepth 100000 in
theorem mc20 : lw_tbl[698]? = some (Cond.code (mY 20) (mB 20) (mL 20) (mR 20)) := rfl
set_option maxRecDepth 100000 in
theorem mc21 : lw_tbl[715]? = some (Cond.code (mY 21) (mB 21) (mL 21) (mR 21)) := rfl
set_option maxRecDepth 100000 in
theorem mc22 : lw_tbl[741]? = some (Cond.code (mY 22) (mB 22) (mL 22) (mR 22)) := rfl
set_option maxRecDepth 100000 in
theorem mc23 : lw_tbl[745]? = some (Cond.code (mY 23) (mB 23) (mL 23) (mR 23)) := rfl
set_option maxRecDepth 100000 in
theorem mc24 : lw_tbl[762]? = some (Cond.code (mY 24) (mB 24) (mL 24) (mR 24)) := rfl
set_option maxRecDepth 100000 in
theorem mc25 : lw_tbl[776]? = some (Cond.code (mY 25) (mB 25) (mL 25) (mR 25)) := rfl
set_option maxRecDepth 100000 in
theorem mc26 : lw_tbl[766]? = some (Cond.code (mY 26) (mB 26) (mL 26) (mR 26)) := rfl
set_option maxRecDepth 100000 in
theorem mc27 : lw_tbl[771]? = some (Cond.code (mY 27) (mB 27) (mL 27) (mR 27)) := rfl
set_option maxRecDepth 100000 in
theorem mc28 : lw_tbl[784]? = some (Cond.code (mY 28) (mB 28) (mL 28) (mR 28)) := rfl
set_option maxRecDepth 100000 in
theorem mc29 : lw_tbl[792]? = some (Cond.code (mY 29) (mB 29) (mL 29) (mR 29)) := rfl
set_option maxRecDepth 100000 in
theorem mc30 : lw_tbl[800]? = some (Cond.code (mY 30) (mB 30) (mL 30) (mR 30)) := rfl
set_option maxRecDepth 100000 in
theorem mc31 : lw_tbl[824]? = some (Cond.code (mY 31) (mB 31) (mL 31) (mR 31)) := rfl
set_option maxRecDepth 100000 in
theorem mc32 : lw_tbl[828]? = some (Cond.code (mY 32) (mB 32) (mL 32) (mR 32)) := rfl
set_option maxRecDepth 100000 in
theorem mc33 : lw_tbl[836]? = some (Cond.code (mY 33) (mB 33) (mL 33) (mR 33)) := rfl
set_option maxRecDepth 100000 in
theorem mc34 : lw_tbl[840]? = some (Cond.code (mY 34) (mB 34) (mL 34) (mR 34)) := rfl
set_option maxRecDepth 100000 in
theorem mc35 : lw_tbl[844]? = some (Cond.code (mY 35) (mB 35) (mL 35) (mR 35)) := rfl
set_option maxRecDepth 100000 in
theorem mc36 : lw_tbl[852]? = some (Cond.code (mY 36) (mB 36) (mL 36) (mR 36)) := rfl
set_option maxRecDepth 100000 in
theorem mc37 : lw_tbl[856]? = some (Cond.code (mY 37) (mB 37) (mL 37) (mR 37)) := rfl
set_option maxRecDepth 100000 in
theorem mc38 : lw_tbl[865]? = some (Cond.code (mY 38) (mB 38) (mL 38) (mR 38)) := rfl
set_option maxRecDepth 100000 in
theorem mc39 : lw_tbl[868]? = some (Cond.code (mY 39) (mB 39) (mL 39) (mR 39)) := rfl
set_option maxRecDepth 100000 in
theorem mc40 : lw_tbl[877]? = some (Cond.code (mY 40) (mB 40) (mL 40) (mR 40)) := rfl
set_option maxRecDepth 100000 in
theorem mc41 : lw_tbl[883]? = some (Cond.code (mY 41) (mB 41) (mL 41) (mR 41)) := rfl
set_option maxRecDepth 100000 in
theorem mc42 : lw_tbl[118]? = some (Cond.code (mY 42) (mB 42) (mL 42) (mR 42)) := rfl
set_option maxRecDepth 100000 in
theorem mc43 : lw_tbl[954]? = some (Cond.code (mY 43) (mB 43) (mL 43) (mR 43)) := rfl
set_option maxRecDepth 100000 in
theorem mc44 : lw_tbl[937]? = some (Cond.code (mY 44) (mB 44) (mL 44) (mR 44)) := rfl
set_option maxRecDepth 100000 in
theorem mc45 : lw_tbl[90]? = some (Cond.code (mY 45) (mB 45) (mL 45) (mR 45)) := rfl
set_option maxRecDepth 100000 in
theorem mc46 : lw_tbl[375]? = some (Cond.code (mY 46) (mB 46) (mL 46) (mR 46)) := rfl
set_option maxRecDepth 100000 in
theorem mc47 : lw_tbl[379]? = some (Cond.code (mY 47) (mB 47) (mL 47) (mR 47)) := rfl
set_option maxRecDepth 100000 in
theorem mc48 : lw_tbl[446]? = some (Cond.code (mY 48) (mB 48) (mL 48) (mR 48)) := rfl
set_option maxRecDepth 100000 in
theorem mc49 : lw_tbl[402]? = some (Cond.code (mY 49) (mB 49) (mL 49) (mR 49)) := rfl
set_option maxRecDepth 100000 in
theorem mc50 : lw_tbl[529]? = some (Cond.code (mY 50) (mB 50) (mL 50) (mR 50)) := rfl
set_option maxRecDepth 100000 in
theorem mc51 : lw_tbl[533]? = some (Cond.code (mY 51) (mB 51) (mL 51) (mR 51)) := rfl
set_option maxRecDepth 100000 in
theorem mc52 : lw_tbl[115]? = some (Cond.code (mY 52) (mB 52) (mL 52) (mR 52)) := rfl
set_option maxRecDepth 100000 in
theorem mc53 : lw_tbl[514]? = some (Cond.code (mY 53) (mB 53) (mL 53) (mR 53)) := rfl
set_option maxRecDepth 100000 in
theorem mc54 : lw_tbl[603]? = some (Cond.code (mY 54) (mB 54) (mL 54) (mR 54)) := rfl
set_option maxRecDepth 100000 in
theorem mc55 : lw_tbl[622]? = some (Cond.code (mY 55) (mB 55) (mL 55) (mR 55)) := rfl
set_option maxRecDepth 100000 in
theorem mc56 : lw_tbl[917]? = some (Cond.code (mY 56) (mB 56) (mL 56) (mR 56)) := rfl
set_option maxRecDepth 100000 in
theorem mc57 : lw_tbl[934]? = some (Cond.code (mY 57) (mB 57) (mL 57) (mR 57)) := rfl
set_option maxRecDepth 100000 in
theorem mc58 : lw_tbl[593]? = some (Cond.code (mY 58) (mB 58) (mL 58) (mR 58)) := rfl
set_option maxRecDepth 100000 in
theorem mc59 : lw_tbl[257]? = some (Cond.code (mY 59) (mB 59) (mL 59) (mR 59)) := rfl
set_option maxRecDepth 100000 in
theorem mc60 : lw_tbl[422]? = some (Cond.code (mY 60) (mB 60) (mL 60) (mR 60)) := rfl
set_option maxRecDepth 100000 in
theorem mc61 : lw_tbl[492]? = some (Cond.code (mY 61) (mB 61) (mL 61) (mR 61)) := rfl
set_option maxRecDepth 100000 in
theorem mc62 : lw_tbl[430]? = some (Cond.code (mY 62) (mB 62) (mL 62) (mR 62)) := rfl
set_option maxRecDepth 100000 in
theorem mc63 : lw_tbl[462]? = some (Cond.code (mY 63) (mB 63) (mL 63) (mR 63)) := rfl
set_option maxRecDepth 100000 in
theorem mc64 : lw_tbl[469]? = some (Cond.code (mY 64) (mB 64) (mL 64) (mR 64)) := rfl
set_option maxRecDepth 100000 in
theorem mc65 : lw_tbl[478]? = some (Cond.code (mY 65) (mB 65) (mL 65) (mR 65)) := rfl
set_option maxRecDepth 100000 in
theorem mc66 : lw_tbl[482]? = some (Cond.code (mY 66) (mB 66) (mL 66) (mR 66)) := rfl
set_option maxRecDepth 100000 in
theorem mc67 : lw_tbl[434]? = some (Cond.code (mY 67) (mB 67) (mL 67) (mR 67)) := rfl
set_option maxRecDepth 100000 in
theorem mc68 : lw_tbl[455]? = some (Cond.code (mY 68) (mB 68) (mL 68) (mR 68)) := rfl
set_option maxRecDepth 100000 in
theorem mc69 : lw_tbl[438]? = some (Cond.code (mY 69) (mB 69) (mL 69) (mR 69)) := rfl
set_option maxRecDepth 100000 in
theorem mc70 : lw_tbl[442]? = some (Cond.code (mY 70) (mB 70) (mL 70) (mR 70)) := rfl
set_option maxRecDepth 100000 in
theorem mc71 : lw_tbl[458]? = some (Cond.code (mY 71) (mB 71) (mL 71) (mR 71)) := rfl
set_option maxRecDepth 100000 in
theorem mc72 : lw_tbl[465]? = some (Cond.code (mY 72) (mB 72) (mL 72) (mR 72)) := rfl
set_option maxRecDepth 100000 in
theorem mc73 : lw_tbl[451]? = some (Cond.code (mY 73) (mB 73) (mL 73) (mR 73)) := rfl
set_option maxRecDepth 100000 in
theorem mc74 : lw_tbl[125]? = some (Cond.code (mY 74) (mB 74) (mL 74) (mR 74)) := rfl
set_option maxRecDepth 100000 in
theorem mc75 : lw_tbl[517]? = some (Cond.code (mY 75) (mB 75) (mL 75) (mR 75)) := rfl
set_option maxRecDepth 100000 in
theorem mc76 : lw_tbl[607]? = some (Cond.code (mY 76) (mB 76) (mL 76) (mR 76)) := rfl
set_option maxRecDepth 100000 in
theorem mc77 : lw_tbl[951]? = some (Cond.code (mY 77) (mB 77) (mL 77) (mR 77)) := rfl
set_option maxRecDepth 100000 in
theorem mc78 : lw_tbl[931]? = some (Cond.code (mY 78) (mB 78) (mL 78) (mR 78)) := rfl
set_option maxRecDepth 100000 in
theorem mc79 : lw_tbl[153]? = some (Cond.code (mY 79) (mB 79) (mL 79) (mR 79)) := rfl
set_option maxRecDepth 100000 in
theorem mc80 : lw_tbl[426]? = some (Cond.code (mY 80) (mB 80) (mL 80) (mR 80)) := rfl
set_option maxRecDepth 100000 in
theorem mc81 : lw_tbl[473]? = some (Cond.code (mY 81) (mB 81) (mL 81) (mR 81)) := rfl
set_option maxRecDepth 100000 in
theorem mc82 : lw_tbl[486]? = some (Cond.code (mY 82) (mB 82) (mL 82) (mR 82)) := rfl
set_option maxRecDepth 100000 in
theorem mc83 : lw_tbl[690]? = some (Cond.code (mY 83) (mB 83) (mL 83) (mR 83)) := rfl
set_option maxRecDepth 100000 in
theorem mc84 : lw_tbl[558]? = some (Cond.code (mY 84) (mB 84) (mL 84) (mR 84)) := rfl
set_option maxRecDepth 100000 in
theorem mc85 : lw_tbl[554]? = some (Cond.code (mY 85) (mB 85) (mL 85) (mR 85)) := rfl
set_option maxRecDepth 100000 in
theorem mc86 : lw_tbl[562]? = some (Cond.code (mY 86) (mB 86) (mL 86) (mR 86)) := rfl
set_option maxRecDepth 100000 in
theorem mc87 : lw_tbl[566]? = some (Cond.code (mY 87) (mB 87) (mL 87) (mR 87)) := rfl
set_option maxRecDepth 100000 in
theorem mc88 : lw_tbl[576]? = some (Cond.code (mY 88) (mB 88) (mL 88) (mR 88)) := rfl
set_option maxRecDepth 100000 in
theorem mc89 : lw_tbl[632]? = some (Cond.code (mY 89) (mB 89) (mL 89) (mR 89)) := rfl
set_option maxRecDepth 100000 in
theorem mc90 : lw_tbl[640]? = some (Cond.code (mY 90) (mB 90) (mL 90) (mR 90)) := rfl
set_option maxRecDepth 100000 in
theorem mc91 : lw_tbl[653]? = some (Cond.code (mY 91) (mB 91) (mL 91) (mR 91)) := rfl
set_option maxRecDepth 100000 in
theorem mc92 : lw_tbl[658]? = some (Cond.code (mY 92) (mB 92) (mL 92) (mR 92)) := rfl
set_option maxRecDepth 100000 in
theorem mc93 : lw_tbl[662]? = some (Cond.code (mY 93) (mB 93) (mL 93) (mR 93)) := rfl
set_option maxRecDepth 100000 in
theorem mc94 : lw_tbl[669]? = some (Cond.code (mY 94) (mB 94) (mL 94) (mR 94)) := rfl
set_option maxRecDepth 100000 in
theorem mc95 : lw_tbl[808]? = some (Cond.code (mY 95) (mB 95) (mL 95) (mR 95)) := rfl
set_option maxRecDepth 100000 in
theorem mc96 : lw_tbl[812]? = some (Cond.code (mY 96) (mB 96) (mL 96) (mR 96)) := rfl
set_option maxRecDepth 100000 in
theorem mc97 : lw_tbl[860]? = some (Cond.code (mY 97) (mB 97) (mL 97) (mR 97)) := rfl
set_option maxRecDepth 100000 in
theorem mc98 : lw_tbl[719]? = some (Cond.code (mY 98) (mB 98) (mL 98) (mR 98)) := rfl
set_option maxRecDepth 100000 in
theorem mc99 : lw_tbl[730]? = some (Cond.code (mY 99) (mB 99) (mL 99) (mR 99)) := rfl
set_option maxRecDepth 100000 in
theorem mc100 : lw_tbl[887]? = some (Cond.code (mY 100) (mB 100) (mL 100) (mR 100)) := rfl
set_option maxRecDepth 100000 in
theorem mc101 : lw_tbl[496]? = some (Cond.code (mY 101) (mB 101) (mL 101) (mR 101)) := rfl
set_option maxRecDepth 100000 in
theorem mc102 : lw_tbl[525]? = some (Cond.code (mY 102) (mB 102) (mL 102) (mR 102)) := rfl
set_option maxRecDepth 100000 in
theorem mc103 : lw_tbl[139]? = some (Cond.code (mY 103) (mB 103) (mL 103) (mR 103)) := rfl
set_option maxRecDepth 100000 in
theorem mc104 : lw_tbl[520]? = some (Cond.code (mY 104) (mB 104) (mL 104) (mR 104)) := rfl
set_option maxRecDepth 100000 in
theorem mc105 : lw_tbl[599]? = some (Cond.code (mY 105) (mB 105) (mL 105) (mR 105)) := rfl
set_option maxRecDepth 100000 in
theorem mc106 : lw_tbl[625]? = some (Cond.code (mY 106) (mB 106) (mL 106) (mR 106)) := rfl
set_option maxRecDepth 100000 in
theorem mc107 : lw_tbl[945]? = some (Cond.code (mY 107) (mB 107) (mL 107) (mR 107)) := rfl
set_option maxRecDepth 100000 in
theorem mc108 : lw_tbl[957]? = some (Cond.code (mY 108) (mB 108) (mL 108) (mR 108)) := rfl
set_option maxRecDepth 100000 in
theorem mc109 : lw_tbl[81]? = some (Cond.code (mY 109) (mB 109) (mL 109) (mR 109)) := rfl
set_option maxRecDepth 100000 in
theorem mc110 : lw_tbl[359]? = some (Cond.code (mY 110) (mB 110) (mL 110) (mR 110)) := rfl
set_option maxRecDepth 100000 in
theorem mc111 : lw_tbl[387]? = some (Cond.code (mY 111) (mB 111) (mL 111) (mR 111)) := rfl
set_option maxRecDepth 100000 in
theorem mc112 : lw_tbl[398]? = some (Cond.code (mY 112) (mB 112) (mL 112) (mR 112)) := rfl
set_option maxRecDepth 100000 in
theorem mc113 : lw_tbl[409]? = some (Cond.code (mY 113) (mB 113) (mL 113) (mR 113)) := rfl
set_option maxRecDepth 100000 in
theorem mc114 : lw_tbl[413]? = some (Cond.code (mY 114) (mB 114) (mL 114) (mR 114)) := rfl
set_option maxRecDepth 100000 in
theorem mc115 : lw_tbl[418]? = some (Cond.code (mY 115) (mB 115) (mL 115) (mR 115)) := rfl
set_option maxRecDepth 100000 in
theorem mc116 : lw_tbl[546]? = some (Cond.code (mY 116) (mB 116) (mL 116) (mR 116)) := rfl
set_option maxRecDepth 100000 in
theorem mc117 : lw_tbl[550]? = some (Cond.code (mY 117) (mB 117) (mL 117) (mR 117)) := rfl
set_option maxRecDepth 100000 in
theorem mc118 : lw_tbl[636]? = some (Cond.code (mY 118) (mB 118) (mL 118) (mR 118)) := rfl
set_option maxRecDepth 100000 in
theorem mc119 : lw_tbl[645]? = some (Cond.code (mY 119) (mB 119) (mL 119) (mR 119)) := rfl
set_option maxRecDepth 100000 in
theorem mc120 : lw_tbl[649]? = some (Cond.code (mY 120) (mB 120) (mL 120) (mR 120)) := rfl
set_option maxRecDepth 100000 in
theorem mc121 : lw_tbl[674]? = some (Cond.code (mY 121) (mB 121) (mL 121) (mR 121)) := rfl
set_option maxRecDepth 100000 in
theorem mc122 : lw_tbl[678]? = some (Cond.code (mY 122) (mB 122) (mL 122) (mR 122)) := rfl
set_option maxRecDepth 100000 in
theorem mc123 : lw_tbl[682]? = some (Cond.code (mY 123) (mB 123) (mL 123) (mR 123)) := rfl
set_option maxRecDepth 100000 in
theorem mc124 : lw_tbl[686]? = some (Cond.code (mY 124) (mB 124) (mL 124) (mR 124)) := rfl
set_option maxRecDepth 100000 in
theorem mc125 : lw_tbl[694]? = some (Cond.code (mY 125) (mB 125) (mL 125) (mR 125)) := rfl
set_option maxRecDepth 100000 in
theorem mc126 : lw_tbl[711]? = some (Cond.code (mY 126) (mB 126) (mL 126) (mR 126)) := rfl
set_option maxRecDepth 100000 in
theorem mc127 : lw_tbl[758]? = some (Cond.code (mY 127) (mB 127) (mL 127) (mR 127)) := rfl
set_option maxRecDepth 100000 in
theorem mc128 : lw_tbl[780]? = some (Cond.code (mY 128) (mB 128) (mL 128) (mR 128)) := rfl
set_option maxRecDepth 100000 in
theorem mc129 : lw_tbl[788]? = some (Cond.code (mY 129) (mB 129) (mL 129) (mR 129)) := rfl
set_option maxRecDepth 100000 in
theorem mc130 : lw_tbl[804]? = some (Cond.code (mY 130) (mB 130) (mL 130) (mR 130)) := rfl
set_option maxRecDepth 100000 in
theorem mc131 : lw_tbl[816]? = some (Cond.code (mY 131) (mB 131) (mL 131) (mR 131)) := rfl
set_option maxRecDepth 100000 in
theorem mc132 : lw_tbl[832]? = some (Cond.code (mY 132) (mB 132) (mL 132) (mR 132)) := rfl
set_option maxRecDepth 100000 in
theorem mc133 : lw_tbl[848]? = some (Cond.code (mY 133) (mB 133) (mL 133) (mR 133)) := rfl
set_option maxRecDepth 100000 in
theorem mc134 : lw_tbl[872]? = some (Cond.code (mY 134) (mB 134) (mL 134) (mR 134)) := rfl
set_option maxRecDepth 100000 in
theorem mc135 : lw_tbl[891]? = some (Cond.code (mY 135) (mB 135) (mL 135) (mR 135)) := rfl
set_option maxRecDepth 100000 in
theorem mc136 : lw_tbl[895]? = some (Cond.code (mY 136) (mB 136) (mL 136) (mR 136)) := rfl
set_option maxRecDepth 100000 in
theorem mc137 : lw_tbl[899]? = some (Cond.code (mY 137) (mB 137) (mL 137) (mR 137)) := rfl
set_option maxRecDepth 100000 in
theorem mc138 : lw_tbl[904]? = some (Cond.code (mY 138) (mB 138) (mL 138) (mR 138)) := rfl
set_option maxRecDepth 100000 in
theorem mc139 : lw_tbl[911]? = some (Cond.code (mY 139) (mB 139) (mL 139) (mR 139)) := rfl
set_option maxRecDepth 100000 in
theorem mc140 : lw_tbl[963]? = some (Cond.code (mY 140) (mB 140) (mL 140) (mR 140)) := rfl
set_option maxRecDepth 100000 in
theorem mc141 : lw_tbl[968]? = some (Cond.code (mY 141) (mB 141) (mL 141) (mR 141)) := rfl
set_option maxRecDepth 100000 in
theorem mc142 : lw_tbl[978]? = some (Cond.code (mY 142) (mB 142) (mL 142) (mR 142)) := rfl
set_option maxRecDepth 100000 in
theorem mc143 : lw_tbl[365]? = some (Cond.code (mY 143) (mB 143) (mL 143) (mR 143)) := rfl
set_option maxRecDepth 100000 in
theorem mc144 : lw_tbl[362]? = some (Cond.code (mY 144) (mB 144) (mL 144) (mR 144)) := rfl
set_option maxRecDepth 100000 in
theorem mc145 : lw_tbl[391]? = some (Cond.code (mY 145) (mB 145) (mL 145) (mR 145)) := rfl
set_option maxRecDepth 100000 in
theorem mc146 : lw_tbl[972]? = some (Cond.code (mY 146) (mB 146) (mL 146) (mR 146)) := rfl
set_option maxRecDepth 100000 in
theorem mc147 : lw_tbl[394]? = some (Cond.code (mY 147) (mB 147) (mL 147) (mR 147)) := rfl
set_option maxRecDepth 100000 in
theorem mc148 : lw_tbl[820]? = some (Cond.code (mY 148) (mB 148) (mL 148) (mR 148)) := rfl
set_option maxRecDepth 100000 in
theorem mc149 : lw_tbl[370]? = some (Cond.code (mY 149) (mB 149) (mL 149) (mR 149)) := rfl
set_option maxRecDepth 100000 in
theorem mc150 : lw_tbl[383]? = some (Cond.code (mY 150) (mB 150) (mL 150) (mR 150)) := rfl
set_option maxRecDepth 100000 in
theorem mc151 : lw_tbl[571]? = some (Cond.code (mY 151) (mB 151) (mL 151) (mR 151)) := rfl
set_option maxRecDepth 100000 in
theorem mc152 : lw_tbl[542]? = some (Cond.code (mY 152) (mB 152) (mL 152) (mR 152)) := rfl
set_option maxRecDepth 100000 in
theorem mc153 : lw_tbl[907]? = some (Cond.code (mY 153) (mB 153) (mL 153) (mR 153)) := rfl
set_option maxRecDepth 100000 in
theorem mc154 : lw_tbl[983]? = some (Cond.code (mY 154) (mB 154) (mL 154) (mR 154)) := rfl
set_option maxRecDepth 100000 in
theorem mc155 : lw_tbl[1069]? = some (Cond.code (mY 155) (mB 155) (mL 155) (mR 155)) := rfl
set_option maxRecDepth 100000 in
theorem mc156 : lw_tbl[1279]? = some (Cond.code (mY 156) (mB 156) (mL 156) (mR 156)) := rfl
set_option maxRecDepth 100000 in
theorem mc157 : lw_tbl[1074]? = some (Cond.code (mY 157) (mB 157) (mL 157) (mR 157)) := rfl
set_option maxRecDepth 100000 in
theorem mc158 : lw_tbl[1079]? = some (Cond.code (mY 158) (mB 158) (mL 158) (mR 158)) := rfl
set_option maxRecDepth 100000 in
theorem mc159 : lw_tbl[1154]? = some (Cond.code (mY 159) (mB 159) (mL 159) (mR 159)) := rfl
set_option maxRecDepth 100000 in
theorem mc160 : lw_tbl[1066]? = some (Cond.code (mY 160) (mB 160) (mL 160) (mR 160)) := rfl
set_option maxRecDepth 100000 in
theorem mc161 : lw_tbl[1087]? = some (Cond.code (mY 161) (mB 161) (mL 161) (mR 161)) := rfl
set_option maxRecDepth 100000 in
theorem mc162 : lw_tbl[1090]? = some (Cond.code (mY 162) (mB 162) (mL 162) (mR 162)) := rfl
set_option maxRecDepth 100000 in
theorem mc163 : lw_tbl[1063]? = some (Cond.code (mY 163) (mB 163) (mL 163) (mR 163)) := rfl
set_option maxRecDepth 100000 in
theorem mc164 : lw_tbl[1083]? = some (Cond.code (mY 164) (mB 164) (mL 164) (mR 164)) := rfl
set_option maxRecDepth 100000 in
theorem mc165 : lw_tbl[1098]? = some (Cond.code (mY 165) (mB 165) (mL 165) (mR 165)) := rfl
set_option maxRecDepth 100000 in
theorem mc166 : lw_tbl[1094]? = some (Cond.code (mY 166) (mB 166) (mL 166) (mR 166)) := rfl
set_option maxRecDepth 100000 in
theorem mc167 : lw_tbl[1102]? = some (Cond.code (mY 167) (mB 167) (mL 167) (mR 167)) := rfl
set_option maxRecDepth 100000 in
theorem mc168 : lw_tbl[1106]? = some (Cond.code (mY 168) (mB 168) (mL 168) (mR 168)) := rfl
set_option maxRecDepth 100000 in
theorem mc169 : lw_tbl[1119]? = some (Cond.code (mY 169) (mB 169) (mL 169) (mR 169)) := rfl
set_option maxRecDepth 100000 in
theorem mc170 : lw_tbl[1115]? = some (Cond.code (mY 170) (mB 170) (mL 170) (mR 170)) := rfl
set_option maxRecDepth 100000 in
theorem mc171 : lw_tbl[1127]? = some (Cond.code (mY 171) (mB 171) (mL 171) (mR 171)) := rfl
set_option maxRecDepth 100000 in
theorem mc172 : lw_tbl[1123]? = some (Cond.code (mY 172) (mB 172) (mL 172) (mR 172)) := rfl
set_option maxRecDepth 100000 in
theorem mc173 : lw_tbl[1131]? = some (Cond.code (mY 173) (mB 173) (mL 173) (mR 173)) := rfl
set_option maxRecDepth 100000 in
theorem mc174 : lw_tbl[1134]? = some (Cond.code (mY 174) (mB 174) (mL 174) (mR 174)) := rfl
set_option maxRecDepth 100000 in
theorem mc175 : lw_tbl[1146]? = some (Cond.code (mY 175) (mB 175) (mL 175) (mR 175)) := rfl
set_option maxRecDepth 100000 in
theorem mc176 : lw_tbl[1142]? = some (Cond.code (mY 176) (mB 176) (mL 176) (mR 176)) := rfl
set_option maxRecDepth 100000 in
theorem mc177 : lw_tbl[1150]? = some (Cond.code (mY 177) (mB 177) (mL 177) (mR 177)) := rfl
set_option maxRecDepth 100000 in
theorem mc178 : lw_tbl[1138]? = some (Cond.code (mY 178) (mB 178) (mL 178) (mR 178)) := rfl
set_option maxRecDepth 100000 in
theorem mc179 : lw_tbl[1111]? = some (Cond.code (mY 179) (mB 179) (mL 179) (mR 179)) := rfl
set_option maxRecDepth 100000 in
theorem mc180 : lw_tbl[1158]? = some (Cond.code (mY 180) (mB 180) (mL 180) (mR 180)) := rfl
set_option maxRecDepth 100000 in
theorem mc181 : lw_tbl[1228]? = some (Cond.code (mY 181) (mB 181) (mL 181) (mR 181)) := rfl
set_option maxRecDepth 100000 in
theorem mc182 : lw_tbl[1170]? = some (Cond.code (mY 182) (mB 182) (mL 182) (mR 182)) := rfl
set_option maxRecDepth 100000 in
theorem mc183 : lw_tbl[1166]? = some (Cond.code (mY 183) (mB 183) (mL 183) (mR 183)) := rfl
set_option maxRecDepth 100000 in
theorem mc184 : lw_tbl[1190]? = some (Cond.code (mY 184) (mB 184) (mL 184) (mR 184)) := rfl
set_option maxRecDepth 100000 in
theorem mc185 : lw_tbl[1187]? = some (Cond.code (mY 185) (mB 185) (mL 185) (mR 185)) := rfl
set_option maxRecDepth 100000 in
theorem mc186 : lw_tbl[1184]? = some (Cond.code (mY 186) (mB 186) (mL 186) (mR 186)) := rfl
set_option maxRecDepth 100000 in
theorem mc187 : lw_tbl[1173]? = some (Cond.code (mY 187) (mB 187) (mL 187) (mR 187)) := rfl
set_option maxRecDepth 100000 in
theorem mc188 : lw_tbl[1181]? = some (Cond.code (mY 188) (mB 188) (mL 188) (mR 188)) := rfl
set_option maxRecDepth 100000 in
theorem mc189 : lw_tbl[1205]? = some (Cond.code (mY 189) (mB 189) (mL 189) (mR 189)) := rfl
set_option maxRecDepth 100000 in
theorem mc190 : lw_tbl[1208]? = some (Cond.code (mY 190) (mB 190) (mL 190) (mR 190)) := rfl
set_option maxRecDepth 100000 in
theorem mc191 : lw_tbl[1178]? = some (Cond.code (mY 191) (mB 191) (mL 191) (mR 191)) := rfl
set_option maxRecDepth 100000 in
theorem mc192 : lw_tbl[1162]? = some (Cond.code (mY 192) (mB 192) (mL 192) (mR 192)) := rfl
set_option maxRecDepth 100000 in
theorem mc193 : lw_tbl[1194]? = some (Cond.code (mY 193) (mB 193) (mL 193) (mR 193)) := rfl
set_option maxRecDepth 100000 in
theorem mc194 : lw_tbl[1198]? = some (Cond.code (mY 194) (mB 194) (mL 194) (mR 194)) := rfl
set_option maxRecDepth 100000 in
theorem mc195 : lw_tbl[1202]? = some (Cond.code (mY 195) (mB 195) (mL 195) (mR 195)) := rfl
set_option maxRecDepth 100000 in
theorem mc196 : lw_tbl[1212]? = some (Cond.code (mY 196) (mB 196) (mL 196) (mR 196)) := rfl
set_option maxRecDepth 100000 in
theorem mc197 : lw_tbl[1216]? = some (Cond.code (mY 197) (mB 197) (mL 197) (mR 197)) := rfl
set_option maxRecDepth 100000 in
theorem mc198 : lw_tbl[1220]? = some (Cond.code (mY 198) (mB 198) (mL 198) (mR 198)) := rfl
set_option maxRecDepth 100000 in
theorem mc199 : lw_tbl[1224]? = some (Cond.code (mY 199) (mB 199) (mL 199) (mR 199)) := rfl
set_option maxRecDepth 100000 in
theorem mc200 : lw_tbl[1232]? = some (Cond.code (mY 200) (mB 200) (mL 200) (mR 200)) := rfl
set_option maxRecDepth 100000 in
theorem mc201 : lw_tbl[1244]? = some (Cond.code (mY 201) (mB 201) (mL 201) (mR 201)) := rfl
set_option maxRecDepth 100000 in
theorem mc202 : lw_tbl[1240]? = some (Cond.code (mY 202) (mB 202) (mL 202) (mR 202)) := rfl
set_option maxRecDepth 100000 in
theorem mc203 : lw_tbl[1236]? = some (Cond.code (mY 203) (mB 203) (mL 203) (mR 203)) := rfl
set_option maxRecDepth 100000 in
theorem mc204 : lw_tbl[1248]? = some (Cond.code (mY 204) (mB 204) (mL 204) (mR 204)) := rfl
set_option maxRecDepth 100000 in
theorem mc205 : lw_tbl[1252]? = some (Cond.code (mY 205) (mB 205) (mL 205) (mR 205)) := rfl
set_option maxRecDepth 100000 in
theorem mc206 : lw_tbl[1260]? = some (Cond.code (mY 206) (mB 206) (mL 206) (mR 206)) := rfl
set_option maxRecDepth 100000 in
theorem mc207 : lw_tbl[1256]? = some (Cond.code (mY 207) (mB 207) (mL 207) (mR 207)) := rfl
set_option maxRecDepth 100000 in
theorem mc208 : lw_tbl[1264]? = some (Cond.code (mY 208) (mB 208) (mL 208) (mR 208)) := rfl
set_option maxRecDepth 100000 in
theorem mc209 : lw_tbl[1268]? = some (Cond.code (mY 209) (mB 209) (mL 209) (mR 209)) := rfl
set_option maxRecDepth 100000 in
theorem mc210 : lw_tbl[1272]? = some (Cond.code (mY 210) (mB 210) (mL 210) (mR 210)) := rfl
set_option maxRecDepth 100000 in
theorem mc211 : lw_tbl[1283]? = some (Cond.code (mY 211) (mB 211) (mL 211) (mR 211)) := rfl
set_option maxRecDepth 100000 in
theorem mc212 : lw_tbl[1276]? = some (Cond.code (mY 212) (mB 212) (mL 212) (mR 212)) := rfl
set_option maxRecDepth 100000 in
theorem mc213 : lw_tbl[1287]? = some (Cond.code (mY 213) (mB 213) (mL 213) (mR 213)) := rfl
set_option maxRecDepth 100000 in
theorem mc214 : lw_tbl[1294]? = some (Cond.code (mY 214) (mB 214) (mL 214) (mR 214)) := rfl
set_option maxRecDepth 100000 in
theorem mc215 : lw_tbl[1298]? = some (Cond.code (mY 215) (mB 215) (mL 215) (mR 215)) := rfl
set_option maxRecDepth 100000 in
theorem mc216 : lw_tbl[1306]? = some (Cond.code (mY 216) (mB 216) (mL 216) (mR 216)) := rfl
set_option maxRecDepth 100000 in
theorem mc217 : lw_tbl[1302]? = some (Cond.code (mY 217) (mB 217) (mL 217) (mR 217)) := rfl
set_option maxRecDepth 100000 in
theorem mc218 : lw_tbl[1310]? = some (Cond.code (mY 218) (mB 218) (mL 218) (mR 218)) := rfl
set_option maxRecDepth 100000 in
theorem mc219 : lw_tbl[1322]? = some (Cond.code (mY 219) (mB 219) (mL 219) (mR 219)) := rfl
set_option maxRecDepth 100000 in
theorem mc220 : lw_tbl[1330]? = some (Cond.code (mY 220) (mB 220) (mL 220) (mR 220)) := rfl
set_option maxRecDepth 100000 in
theorem mc221 : lw_tbl[1318]? = some (Cond.code (mY 221) (mB 221) (mL 221) (mR 221)) := rfl
set_option maxRecDepth 100000 in
theorem mc222 : lw_tbl[1326]? = some (Cond.code (mY 222) (mB 222) (mL 222) (mR 222)) := rfl
set_option maxRecDepth 100000 in
theorem mc223 : lw_tbl[1334]? = some (Cond.code (mY 223) (mB 223) (mL 223) (mR 223)) := rfl
set_option maxRecDepth 100000 in
theorem mc224 : lw_tbl[1314]? = some (Cond.code (mY 224) (mB 224) (mL 224) (mR 224)) := rfl
set_option maxRecDepth 100000 in
theorem mc225 : lw_tbl[1338]? = some (Cond.code (mY 225) (mB 225) (mL 225) (mR 225)) := rfl
set_option maxRecDepth 100000 in
theorem mc226 : lw_tbl[1346]? = some (Cond.code (mY 226) (mB 226) (mL 226) (mR 226)) := rfl
set_option maxRecDepth 100000 in
theorem mc227 : lw_tbl[1350]? = some (Cond.code (mY 227) (mB 227) (mL 227) (mR 227)) := rfl
set_option maxRecDepth 100000 in
theorem mc228 : lw_tbl[1342]? = some (Cond.code (mY 228) (mB 228) (mL 228) (mR 228)) := rfl
set_option maxRecDepth 100000 in
theorem mc229 : lw_tbl[1354]? = some (Cond.code (mY 229) (mB 229) (mL 229) (mR 229)) := rfl
theorem mT_code (m : Nat) (h : m < 230) : Cond.code (mY m) (mB m) (mL m) (mR m) ∈ jW := by
  match m, h with
  | 0, _ => exact jW_mem mc0 rfl
  | 1, _ => exact jW_mem mc1 rfl
  | 2, _ => exact jW_mem mc2 rfl
  | 3, _ => exact jW_mem mc3 rfl
  | 4, _ => exact jW_mem mc4 rfl
  | 5, _ => exact jW_mem mc5 rfl
  | 6, _ => exact jW_mem mc6 rfl
  | 7, _ => exact jW_mem mc7 rfl
  | 8, _ => exact jW_mem mc8 rfl
  | 9, _ => exact jW_mem mc9 rfl
  | 10, _ => exact jW_mem mc10 rfl
  | 11, _ => exact jW_mem mc11 rfl
  | 12, _ => exact jW_mem mc12 rfl
  | 13, _ => exact jW_mem mc13 rfl
  | 14, _ => exact jW_mem mc14 rfl
  | 15, _ => exact jW_mem mc15 rfl
  | 16, _ => exact jW_mem mc16 rfl
  | 17, _ => exact jW_mem mc17 rfl
  | 18, _ => exact jW_mem mc18 rfl
  | 19, _ => exact jW_mem mc19 rfl
  | 20, _ => exact jW_mem mc20 rfl
  | 21, _ => exact jW_mem mc21 rfl
  | 22, _ => exact jW_mem mc22 rfl
  | 23, _ => exact jW_mem mc23 rfl
  | 24, _ => exact jW_mem mc24 rfl
  | 25, _ => exact jW_mem mc25 rfl
  | 26, _ => exact jW_mem mc26 rfl
  | 27, _ => exact jW_mem mc27 rfl
  | 28, _ => exact jW_mem mc28 rfl
  | 29, _ => exact jW_mem mc29 rfl
  | 30, _ => exact jW_mem mc30 rfl
  | 31, _ => exact jW_mem mc31 rfl
  | 32, _ => exact jW_mem mc32 rfl
  | 33, _ => exact jW_mem mc33 rfl
  | 34, _ => exact jW_mem mc34 rfl
  | 35, _ => exact jW_mem mc35 rfl
  | 36, _ => exact jW_mem mc36 rfl
  | 37, _ => exact jW_mem mc37 rfl
  | 38, _ => exact jW_mem mc38 rfl
  | 39, _ => exact jW_mem mc39 rfl
  | 40, _ => exact jW_mem mc40 rfl
  | 41, _ => exact jW_mem mc41 rfl
  | 42, _ => exact jW_mem mc42 rfl
  | 43, _ => exact jW_mem mc43 rfl
  | 44, _ => exact jW_mem mc44 rfl
  | 45, _ => exact jW_mem mc45 rfl
  | 46, _ => exact jW_mem mc46 rfl
  | 47, _ => exact jW_mem mc47 rfl
  | 48, _ => exact jW_mem mc48 rfl
  | 49, _ => exact jW_mem mc49 rfl
  | 50, _ => exact jW_mem mc50 rfl
  | 51, _ => exact jW_mem mc51 rfl
  | 52, _ => exact jW_mem mc52 rfl
  | 53, _ => exact jW_mem mc53 rfl
  | 54, _ => exact jW_mem mc54 rfl
  | 55, _ => exact jW_mem mc55 rfl
  | 56, _ => exact jW_mem mc56 rfl
  | 57, _ => exact jW_mem mc57 rfl
  | 58, _ => exact jW_mem mc58 rfl
  | 59, _ => exact jW_mem mc59 rfl
  | 60, _ => exact jW_mem mc60 rfl
  | 61, _ => exact jW_mem mc61 rfl
  | 62, _ => exact jW_mem mc62 rfl
  | 63, _ => exact jW_mem mc63 rfl
  | 64, _ => exact jW_mem mc64 rfl
  | 65, _ => exact jW_mem mc65 rfl
  | 66, _ => exact jW_mem mc66 rfl
  | 67, _ => exact jW_mem mc67 rfl
  | 68, _ => exact jW_mem mc68 rfl
  | 69, _ => exact jW_mem mc69 rfl
  | 70, _ => exact jW_mem mc70 rfl
  | 71, _ => exact jW_mem mc71 rfl
  | 72, _ => exact jW_mem mc72 rfl
  | 73, _ => exact jW_mem mc73 rfl
  | 74, _ => exact jW_mem mc74 rfl
  | 75, _ => exact jW_mem mc75 rfl
  | 76, _ => exact jW_mem mc76 rfl
  | 77, _ => exact jW_mem mc77 rfl
  | 78, _ => exact jW_mem mc78 rfl
  | 79, _ => exact jW_mem mc79 rfl
  | 80, _ => exact jW_mem mc80 rfl
  | 81, _ => exact jW_mem mc81 rfl
  | 82, _ => exact jW_mem mc82 rfl
  | 83, _ => exact jW_mem mc83 rfl
  | 84, _ => exact jW_mem mc84 rfl
  | 85, _ => exact jW_mem mc85 rfl
  | 86, _ => exact jW_mem mc86 rfl
  | 87, _ => exact jW_mem mc87 rfl
  | 88, _ => exact jW_mem mc88 rfl
  | 89, _ => exact jW_mem mc89 rfl
  | 90, _ => exact jW_mem mc90 rfl
  | 91, _ => exact jW_mem mc91 rfl
  | 92, _ => exact jW_mem mc92 rfl
  | 93, _ => exact jW_mem mc93 rfl
  | 94, _ => exact jW_mem mc94 rfl
  | 95, _ => exact jW_mem mc95 rfl
  | 96, _ => exact jW_mem mc96 rfl
  | 97, _ => exact jW_mem mc97 rfl
  | 98, _ => exact jW_mem mc98 rfl
  | 99, _ => exact jW_mem mc99 rfl
  | 100, _ => exact jW_mem mc100 rfl
  | 101, _ => exact jW_mem mc101 rfl
  | 102, _ => exact jW_mem mc102 rfl
  | 103, _ => exact jW_mem mc103 rfl
  | 104, _ => exact jW_mem mc104 rfl
  | 105, _ => exact jW_mem mc105 rfl
  | 106, _ => exact jW_mem mc106 rfl
  | 107, _ => exact jW_mem mc107 rfl
  | 108, _ => exact jW_mem mc108 rfl
  | 109, _ => exact jW_mem mc109 rfl
  | 110, _ => exact jW_mem mc110 rfl
  | 111, _ => exact jW_mem mc111 rfl
  | 112, _ => exact jW_mem mc112 rfl
  | 113, _ => exact jW_mem mc113 rfl
  | 114, _ => exact jW_mem mc114 rfl
  | 115, _ => exact jW_mem mc115 rfl
  | 116, _ => exact jW_mem mc116 rfl
  | 117, _ => exact jW_mem mc117 rfl
  | 118, _ => exact jW_mem mc118 rfl
  | 119, _ => exact jW_mem mc119 rfl
  | 120, _ => exact jW_mem mc120 rfl
  | 121, _ => exact jW_mem mc121 rfl
  | 122, _ => exact jW_mem mc122 rfl
  | 123, _ => exact jW_mem mc123 rfl
  | 124, _ => exact jW_mem mc124 rfl
  | 125, _ => exact jW_mem mc125 rfl
  | 126, _ => exact jW_mem mc126 rfl
  | 127, _ => exact jW_mem mc127 rfl
  | 128, _ => exact jW_mem mc128 rfl
  | 129, _ => exact jW_mem mc129 rfl
  | 130, _ => exact jW_mem mc130 rfl
  | 131, _ => exact jW_mem mc131 rfl
  | 132, _ => exact jW_mem mc132 rfl
  | 133, _ => exact jW_mem mc133 rfl
  | 134, _ => exact jW_mem mc134 rfl
  | 135, _ => exact jW_mem mc135 rfl
  | 136, _ => exact jW_mem mc136 rfl
  | 137, _ => exact jW_mem mc137 rfl
  | 138, _ => exact jW_mem mc138 rfl
  | 139, _ => exact jW_mem mc139 rfl
  | 140, _ => exact jW_mem mc140 rfl
  | 141, _ => exact jW_mem mc141 rfl
  | 142, _ => exact jW_mem mc142 rfl
  | 143, _ => exact jW_mem mc143 rfl
  | 144, _ => exact jW_mem mc144 rfl
  | 145, _ => exact jW_mem mc145 rfl
  | 146, _ => exact jW_mem mc146 rfl
  | 147, _ => exact jW_mem mc147 rfl
  | 148, _ => exact jW_mem mc148 rfl
  | 149, _ => exact jW_mem mc149 rfl
  | 150, _ => exact jW_mem mc150 rfl
  | 151, _ => exact jW_mem mc151 rfl
  | 152, _ => exact jW_mem mc152 rfl
  | 153, _ => exact jW_mem mc153 rfl
  | 154, _ => exact jW_mem mc154 rfl
  | 155, _ => exact jW_mem mc155 rfl
  | 156, _ => exact jW_mem mc156 rfl
  | 157, _ => exact jW_mem mc157 rfl
  | 158, _ => exact jW_mem mc158 rfl
  | 159, _ => exact jW_mem mc159 rfl
  | 160, _ => exact jW_mem mc160 rfl
  | 161, _ => exact jW_mem mc161 rfl
  | 162, _ => exact jW_mem mc162 rfl
  | 163, _ => exact jW_mem mc163 rfl
  | 164, _ => exact jW_mem mc164 rfl
  | 165, _ => exact jW_mem mc165 rfl
  | 166, _ => exact jW_mem mc166 rfl
  | 167, _ => exact jW_mem mc167 rfl
  | 168, _ => exact jW_mem mc168 rfl
  | 169, _ => exact jW_mem mc169 rfl
  | 170, _ => exact jW_mem mc170 rfl
  | 171, _ => exact jW_mem mc171 rfl
  | 172, _ => exact jW_mem mc172 rfl
  | 173, _ => exact jW_mem mc173 rfl
  | 174, _ => exact jW_mem mc174 rfl
  | 175, _ => exact jW_mem mc175 rfl
  | 176, _ => exact jW_mem mc176 rfl
  | 177, _ => exact jW_mem mc177 rfl
  | 178, _ => exact jW_mem mc178 rfl
  | 179, _ => exact jW_mem mc179 rfl
  | 180, _ => exact jW_mem mc180 rfl
  | 181, _ => exact jW_mem mc181 rfl
  | 182, _ => exact jW_mem mc182 rfl
  | 183, _ => exact jW_mem mc183 rfl
  | 184, _ => exact jW_mem mc184 rfl
  | 185, _ => exact jW_mem mc185 rfl
  | 186, _ => exact jW_mem mc186 rfl
  | 187, _ => exact jW_mem mc187 rfl
  | 188, _ => exact jW_mem mc188 rfl
  | 189, _ => exact jW_mem mc189 rfl
  | 190, _ => exact jW_mem mc190 rfl
  | 191, _ => exact jW_mem mc191 rfl
  | 192, _ => exact jW_mem mc192 rfl
  | 193, _ => exact jW_mem mc193 rfl
  | 194, _ => exact jW_mem mc194 rfl
  | 195, _ => exact jW_mem mc195 rfl
  | 196, _ => exact jW_mem mc196 rfl
  | 197, _ => exact jW_mem mc197 rfl
  | 198, _ => exact jW_mem mc198 rfl
  | 199, _ => exact jW_mem mc199 rfl
  | 200, _ => exact jW_mem mc200 rfl
  | 201, _ => exact jW_mem mc201 rfl
  | 202, _ => exact jW_mem mc202 rfl
  | 203, _ => exact jW_mem mc203 rfl
  | 204, _ => exact jW_mem mc204 rfl
  | 205, _ => exact jW_mem mc205 rfl
  | 206, _ => exact jW_mem mc206 rfl
  | 207, _ => exact jW_mem mc207 rfl
  | 208, _ => exact jW_mem mc208 rfl
  | 209, _ => exact jW_mem mc209 rfl
  | 210, _ => exact jW_mem mc210 rfl
  | 211, _ => exact jW_mem mc211 rfl
  | 212, _ => exact jW_mem mc212 rfl
  | 213, _ => exact jW_mem mc213 rfl
  | 214, _ => exact jW_mem mc214 rfl
  | 215, _ => exact jW_mem mc215 rfl
  | 216, _ => exact jW_mem mc216 rfl
  | 217, _ => exact jW_mem mc217 rfl
  | 218, _ => exact jW_mem mc218 rfl
  | 219, _ => exact jW_mem mc219 rfl
  | 220, _ => exact jW_mem mc220 rfl
  | 221, _ => exact jW_mem mc221 rfl
  | 222, _ => exact jW_mem mc222 rfl
  | 223, _ => exact jW_mem mc223 rfl
  | 224, _ => exact jW_mem mc224 rfl
  | 225, _ => exact jW_mem mc225 rfl
  | 226, _ => exact jW_mem mc226 rfl
  | 227, _ => exact jW_mem mc227 rfl
  | 228, _ => exact jW_mem mc228 rfl
  | 229, _ => exact jW_mem mc229 rfl
  | m + 230, h => exact absurd h (by omega)
end
section
/-! THE SMALL MACHINE: numbers are Int, cells have numbers; what the real one answers where this one does stands in the next parts. -/
/-- a value: a number, a long, a cell or null -/
abbrev jV : Type := Int ⊕ Int ⊕ Option Nat
abbrev vi (z : Int) : jV := .inl z
abbrev vl (z : Int) : jV := .inr (.inl z)
abbrev vr (k : Nat) : jV := .inr (.inr (some k))
/-- a store: may cells be made, how many there are, how many slots, what each is (class or 50 int[], 51 boolean[], 52 .. arrays of cells; its length), its numbers, its cells -/
abbrev jS : Type := Bool × Nat × Nat × (Nat → Nat × Nat) × (Nat → Int → Int) × (Nat → Int → Option Nat)
abbrev jL : Type := List (Option jV)
def inR (z : Int) : Prop := -2147483648 ≤ z ∧ z < 2147483648
def inB (z : Int) : Bool := decide (-2147483648 ≤ z) && decide (z < 2147483648)
def up {α : Type} (f : Nat → Int → α) (k : Nat) (j : Int) (v : α) : Nat → Int → α := fun a b => if a = k ∧ b = j then v else f a b
def wr (z : Int) : Int := z.bmod 4294967296
def lget (L : jL) (i : Nat) : Option jV := (L[i]?).join
def isL (v : jV) : Bool := match v with
  | .inr (.inl _) => true
  | _ => false
def noL (L : jL) (i : Nat) : Bool := match i with
  | 0 => true
  | j + 1 => match lget L j with
    | some v => !isL v
    | none => true
def lput (L : jL) (i : Nat) (v : jV) : Option jL := if decide (i < L.length) && noL L i then some (L.set i (some v)) else none
def lput2 (L : jL) (i : Nat) (v : jV) : Option jL := if decide (i + 1 < L.length) && noL L i then some ((L.set i (some v)).set (i + 1) none) else none
def szS (S : List jV) : Nat := (S.map fun v => if isL v then 2 else 1).sum
def popN : Nat → List jV → Option (List jV × List jV)
  | 0, S => some ([], S)
  | n + 1, v :: S => (popN n S).map (fun q => (q.1 ++ [v], q.2))
  | _ + 1, [] => none
def iniL (n : Nat) (a : List jV) : jL := let l := a.flatMap (fun v => if isL v then [some v, none] else [some v]); l ++ List.replicate (n - l.length) none
-- the links
def tF (o i : Nat) : Option (Nat × Nat × Nat × Nat) := (tFl.find? (fun e => e.1 == o && e.2.1 == i)).map (fun e => e.2.2.2)
def tK (o i : Nat) : Option Int := (tKl.find? (fun e => e.1 == o && e.2.1 == i)).map (fun e => e.2.2.2)
def tKK (o i : Nat) : Option Int := (tKKl.find? (fun e => e.1 == o && e.2.1 == i)).map (fun e => e.2.2.2)
def tN (o i : Nat) : Option Nat := (tNl.find? (fun e => e.1 == o && e.2.1 == i)).map (fun e => e.2.2.2.1)
def tA (o i : Nat) : Option Nat := (tAl.find? (fun e => e.1 == o && e.2.1 == i)).map (fun e => e.2.2.2.1)
def tO (o i : Nat) : Option Nat := (tOl.find? (fun e => e.1 == o && e.2.1 == i)).map (fun e => e.2.2.2)
def tM (o i : Nat) : Option Nat := (tMl.find? (fun e => e.1 == o && e.2.1 == i)).map (fun e => e.2.2.1)
def tS (o i : Nat) : Option Nat := (tSl.find? (fun e => e.1 == o && e.2.1 == i)).map (fun e => e.2.2.1)
def tI (o i : Nat) : Option Nat := (tIl.find? (fun e => e.1 == o && e.2.1 == i)).map (fun e => e.2.2.1)
def tJ (o i : Nat) : Option Nat := (tJl.find? (fun e => e.1 == o && e.2.1 == i)).map (fun e => e.2.2.1)
def tB (o i : Nat) : Bool := tBl.any (fun e => e.1 == o && e.2.1 == i)
def tP (o i : Nat) : Option Nat := (tPl.find? (fun e => e.1 == o && e.2.1 == i)).map (fun e => e.2.2.1)
/-- how many arguments a virtual call takes beside its receiver -/
def tVn (o i : Nat) : Option Nat := (tVl.find? (fun e => e.1 == o && e.2.1 == i)).map (fun e => e.2.2.1)
def tV (o i c : Nat) : Option Nat := (tVl.find? (fun e => e.1 == o && e.2.1 == i && e.2.2.2.1 == c)).map (fun e => e.2.2.2.2.1)
/-- instanceof, by the object's class (a number of jcl) and the class that is asked for (a number of oN) -/
def tIn (c o : Nat) : Option Bool :=
  match c, o with
  | 5, 6 => some true | 5, 8 => some false | 5, 0 => some false | 5, 10 => some false | 5, 2 => some false
  | 7, 6 => some true | 7, 8 => some true | 7, 0 => some false | 7, 10 => some false | 7, 2 => some false
  | 0, 6 => some true | 0, 8 => some false | 0, 0 => some true | 0, 10 => some false | 0, 2 => some false
  | 9, 6 => some false | 9, 8 => some false | 9, 0 => some false | 9, 10 => some true | 9, 2 => some false
  | 2, 6 => some false | 2, 8 => some false | 2, 0 => some false | 2, 10 => some true | 2, 2 => some true
  | _, _ => none
/-- whether a cell of a class may stand in an array of cells of a tag -/
def tIt (c t : Nat) : Bool := match t with
  | 52 => c == 4
  | 53 => c == 5 || c == 7 || c == 0 || c == 9 || c == 2
  | 54 => c == 1
  | _ => false
-- STEPS that go on to the next instruction and touch no cell
def s1 (o : Nat) (i : Instr) (L : jL) (S : List jV) : Option (jL × List jV) :=
  match i with
  | .iload n => match lget L n with
    | some (.inl z) => some (L, .inl z :: S)
    | _ => none
  | .iload_n n => match lget L n with
    | some (.inl z) => some (L, .inl z :: S)
    | _ => none
  | .lload n => match lget L n with
    | some (.inr (.inl z)) => some (L, .inr (.inl z) :: S)
    | _ => none
  | .lload_n n => match lget L n with
    | some (.inr (.inl z)) => some (L, .inr (.inl z) :: S)
    | _ => none
  | .aload n => match lget L n with
    | some (.inr (.inr (some k))) => some (L, .inr (.inr (some k)) :: S)
    | _ => none
  | .aload_n n => match lget L n with
    | some (.inr (.inr (some k))) => some (L, .inr (.inr (some k)) :: S)
    | _ => none
  | .istore n => match S with
    | .inl z :: S => (lput L n (.inl z)).map (fun L => (L, S))
    | _ => none
  | .istore_n n => match S with
    | .inl z :: S => (lput L n (.inl z)).map (fun L => (L, S))
    | _ => none
  | .astore n => match S with
    | .inr (.inr (some k)) :: S => (lput L n (.inr (.inr (some k)))).map (fun L => (L, S))
    | _ => none
  | .astore_n n => match S with
    | .inr (.inr (some k)) :: S => (lput L n (.inr (.inr (some k)))).map (fun L => (L, S))
    | _ => none
  | .lstore n => match S with
    | .inr (.inl z) :: S => (lput2 L n (.inr (.inl z))).map (fun L => (L, S))
    | _ => none
  | .lstore_n n => match S with
    | .inr (.inl z) :: S => (lput2 L n (.inr (.inl z))).map (fun L => (L, S))
    | _ => none
  | .iinc n d => match lget L n with
    | some (.inl z) => (lput L n (.inl (z + d))).map (fun L => (L, S))
    | _ => none
  | .iconst z => some (L, .inl z :: S)
  | .bipush z => if decide (-128 ≤ z) && decide (z ≤ 127) then some (L, .inl z :: S) else none
  | .sipush z => if decide (-32768 ≤ z) && decide (z ≤ 32767) then some (L, .inl z :: S) else none
  | .ldc n => (tK o n).map (fun z => (L, .inl z :: S))
  | .ldc_w n => (tK o n).map (fun z => (L, .inl z :: S))
  | .ldc2_w n => (tKK o n).map (fun z => (L, .inr (.inl z) :: S))
  | .dup => match S with
    | v :: S => if isL v then none else some (L, v :: v :: S)
    | _ => none
  | .dup2 => match S with
    | v :: w :: S => if isL v || isL w then none else some (L, v :: w :: v :: w :: S)
    | _ => none
  | .pop => match S with
    | v :: S => if isL v then none else some (L, S)
    | _ => none
  | .iadd => match S with
    | .inl y :: .inl x :: S => some (L, .inl (x + y) :: S)
    | _ => none
  | .isub => match S with
    | .inl y :: .inl x :: S => some (L, .inl (x - y) :: S)
    | _ => none
  | .imul => match S with
    | .inl y :: .inl x :: S => some (L, .inl (x * y) :: S)
    | _ => none
  | .ineg => match S with
    | .inl x :: S => some (L, .inl (-x) :: S)
    | _ => none
  | .idiv => match S with
    | .inl y :: .inl x :: S => if decide (0 ≤ x) && decide (x < 2147483648) && decide (0 < y) && decide (y < 2147483648) then some (L, .inl (x / y) :: S) else none
    | _ => none
  | .irem => match S with
    | .inl y :: .inl x :: S => if decide (0 ≤ x) && decide (x < 2147483648) && decide (0 < y) && decide (y < 2147483648) then some (L, .inl (x % y) :: S) else none
    | _ => none
  | .ishl => match S with
    | .inl y :: .inl x :: S => if decide (0 ≤ y) && decide (y < 32) then some (L, .inl (x * 2 ^ y.toNat) :: S) else none
    | _ => none
  | .ishr => match S with
    | .inl y :: .inl x :: S => if decide (0 ≤ y) && decide (y < 32) then some (L, .inl (wr x / 2 ^ y.toNat) :: S) else none
    | _ => none
  | .iand => match S with
    | .inl y :: .inl x :: S => if y = 63 then some (L, .inl (x % 64) :: S) else if y = 1 then some (L, .inl (x % 2) :: S) else none
    | _ => none
  | .ior => match S with
    | .inl y :: .inl x :: S => if decide (0 ≤ x) && decide (x < 2147483648) && decide (0 ≤ y) && decide (y < 2147483648) then some (L, .inl ((x.toNat ||| y.toNat : Nat) : Int) :: S) else none
    | _ => none
  | .i2l => match S with
    | .inl x :: S => if inB x then some (L, .inr (.inl x) :: S) else none
    | _ => none
  | .l2i => match S with
    | .inr (.inl x) :: S => some (L, .inl x :: S)
    | _ => none
  | .i2b => match S with
    | .inl x :: S => some (L, .inl (x.bmod 256) :: S)
    | _ => none
  | .i2s => match S with
    | .inl x :: S => some (L, .inl (x.bmod 65536) :: S)
    | _ => none
  | .lmul => match S with
    | .inr (.inl y) :: .inr (.inl x) :: S => some (L, .inr (.inl (x * y)) :: S)
    | _ => none
  | .lrem => match S with
    | .inr (.inl y) :: .inr (.inl x) :: S => if decide (0 ≤ x) && decide (x < 9223372036854775808) && decide (0 < y) && decide (y < 9223372036854775808) then some (L, .inr (.inl (x % y)) :: S) else none
    | _ => none
  | _ => none
/-- numbers of 0 to 31: how many bits are set -/
def bitC (x : Int) : Int := x % 2 + x / 2 % 2 + x / 4 % 2 + x / 8 % 2 + x / 16 % 2
/-- a range of numbers copied -/
def cpI (f : Nat → Int → Int) (k0 k1 : Nat) (sp dp n : Int) : Nat → Int → Int := fun a b => if a = k1 ∧ dp ≤ b ∧ b < dp + n then f k0 (sp + (b - dp)) else f a b
/-- the number among oN of a class of jcl -/
def cO (c : Nat) : Nat := if c < 4 then c else c + 1
-- STEPS that go on to the next instruction and look at the store ('init': the method is a constructor)
def s2 (o : Nat) (init : Bool) (i : Instr) (S : List jV) (σ : jS) : Option (List jV × jS) :=
  match i with
  | .getfield n => match S, tF o n with
    | .inr (.inr (some k)) :: S, some (c, j, rf, _) =>
      if decide (k < σ.2.1) && decide (σ.2.2.2.1 k = (c, 0)) then
        if rf == 1 then some (.inr (.inr (σ.2.2.2.2.2 k j)) :: S, σ) else some (.inl (σ.2.2.2.2.1 k j) :: S, σ)
      else none
    | _, _ => none
  | .putfield n => match S, tF o n with
    | .inl z :: .inr (.inr (some k)) :: S, some (c, j, rf, fin) =>
      if decide (k < σ.2.1) && decide (σ.2.2.2.1 k = (c, 0)) && (rf == 0) && (fin == 0) then some (S, σ.1, σ.2.1, σ.2.2.1, σ.2.2.2.1, up σ.2.2.2.2.1 k j z, σ.2.2.2.2.2) else none
    | .inr (.inr (some q)) :: .inr (.inr (some k)) :: S, some (c, j, rf, fin) =>
      if decide (k < σ.2.1) && decide (σ.2.2.2.1 k = (c, 0)) && (rf == 1) && (fin == 0 || (init && cO c == o)) then some (S, σ.1, σ.2.1, σ.2.2.1, σ.2.2.2.1, σ.2.2.2.2.1, up σ.2.2.2.2.2 k j (some q)) else none
    | _, _ => none
  | .iaload => match S with
    | .inl x :: .inr (.inr (some k)) :: S => if decide (k < σ.2.1) && ((σ.2.2.2.1 k).1 == 50) && decide (0 ≤ x) && decide (x < (σ.2.2.2.1 k).2) then some (.inl (σ.2.2.2.2.1 k x) :: S, σ) else none
    | _ => none
  | .iastore => match S with
    | .inl z :: .inl x :: .inr (.inr (some k)) :: S => if decide (k < σ.2.1) && ((σ.2.2.2.1 k).1 == 50) && decide (0 ≤ x) && decide (x < (σ.2.2.2.1 k).2) then some (S, σ.1, σ.2.1, σ.2.2.1, σ.2.2.2.1, up σ.2.2.2.2.1 k x z, σ.2.2.2.2.2) else none
    | _ => none
  | .baload => match S with
    | .inl x :: .inr (.inr (some k)) :: S => if decide (k < σ.2.1) && ((σ.2.2.2.1 k).1 == 51) && decide (0 ≤ x) && decide (x < (σ.2.2.2.1 k).2) then some (.inl (σ.2.2.2.2.1 k x) :: S, σ) else none
    | _ => none
  | .bastore => match S with
    | .inl z :: .inl x :: .inr (.inr (some k)) :: S => if decide (k < σ.2.1) && ((σ.2.2.2.1 k).1 == 51) && decide (0 ≤ x) && decide (x < (σ.2.2.2.1 k).2) && (decide (z = 0) || decide (z = 1)) then some (S, σ.1, σ.2.1, σ.2.2.1, σ.2.2.2.1, up σ.2.2.2.2.1 k x z, σ.2.2.2.2.2) else none
    | _ => none
  | .aaload => match S with
    | .inl x :: .inr (.inr (some k)) :: S => if decide (k < σ.2.1) && decide (52 ≤ (σ.2.2.2.1 k).1) && decide ((σ.2.2.2.1 k).1 ≤ 54) && decide (0 ≤ x) && decide (x < (σ.2.2.2.1 k).2) then some (.inr (.inr (σ.2.2.2.2.2 k x)) :: S, σ) else none
    | _ => none
  | .aastore => match S with
    | .inr (.inr (some q)) :: .inl x :: .inr (.inr (some k)) :: S => if decide (k < σ.2.1) && decide (q < σ.2.1) && decide ((σ.2.2.2.1 q).1 < 12) && decide (52 ≤ (σ.2.2.2.1 k).1) && decide ((σ.2.2.2.1 k).1 ≤ 54) && tIt (σ.2.2.2.1 q).1 (σ.2.2.2.1 k).1 && decide (0 ≤ x) && decide (x < (σ.2.2.2.1 k).2) then some (S, σ.1, σ.2.1, σ.2.2.1, σ.2.2.2.1, σ.2.2.2.2.1, up σ.2.2.2.2.2 k x (some q)) else none
    | _ => none
  | .arraylength => match S with
    | .inr (.inr (some k)) :: S => if decide (k < σ.2.1) && decide (50 ≤ (σ.2.2.2.1 k).1) && decide ((σ.2.2.2.1 k).1 ≤ 54) then some (.inl ((σ.2.2.2.1 k).2 : Nat) :: S, σ) else none
    | _ => none
  | .instanceof n => match S, tO o n with
    | .inr (.inr (some k)) :: S, some w => if decide (k < σ.2.1) && decide ((σ.2.2.2.1 k).1 < 12) then (tIn (σ.2.2.2.1 k).1 w).map (fun b => (.inl (if b then 1 else 0) :: S, σ)) else none
    | _, _ => none
  | .new n => (tN o n).bind (fun c => if σ.1 && decide (0 < σ.2.1) then some (.inr (.inr (some σ.2.1)) :: S, true, σ.2.1 + 1, σ.2.2.1 + cF c, (fun a => if a = σ.2.1 then (c, 0) else σ.2.2.2.1 a), (fun a b => if a = σ.2.1 then 0 else σ.2.2.2.2.1 a b), (fun a b => if a = σ.2.1 then none else σ.2.2.2.2.2 a b)) else none)
  | .newarray t => match S with
    | .inl x :: S => if σ.1 && decide (0 < σ.2.1) && decide (0 ≤ x) && decide (x < 100000) && (t == .int || t == .boolean) then some (.inr (.inr (some σ.2.1)) :: S, true, σ.2.1 + 1, σ.2.2.1 + x.toNat, (fun a => if a = σ.2.1 then (if t == .int then 50 else 51, x.toNat) else σ.2.2.2.1 a), (fun a b => if a = σ.2.1 then 0 else σ.2.2.2.2.1 a b), (fun a b => if a = σ.2.1 then none else σ.2.2.2.2.2 a b)) else none
    | _ => none
  | .anewarray n => match S, tA o n with
    | .inl x :: S, some t => if σ.1 && decide (0 < σ.2.1) && decide (0 ≤ x) && decide (x < 100000) then some (.inr (.inr (some σ.2.1)) :: S, true, σ.2.1 + 1, σ.2.2.1 + x.toNat, (fun a => if a = σ.2.1 then (t, x.toNat) else σ.2.2.2.1 a), (fun a b => if a = σ.2.1 then 0 else σ.2.2.2.2.1 a b), (fun a b => if a = σ.2.1 then none else σ.2.2.2.2.2 a b)) else none
    | _, _ => none
  | .invokespecial n => match S with
    | .inr (.inr (some _)) :: S => if tB o n && decide (szS S ≤ 8) then some (S, σ) else none
    | _ => none
  | .invokestatic n => match tM o n with
    | some 0 => match S with
      | .inl n :: .inl dp :: .inr (.inr (some k1)) :: .inl sp :: .inr (.inr (some k0)) :: S =>
        if decide (k0 < σ.2.1) && decide (k1 < σ.2.1) && ((σ.2.2.2.1 k0).1 == 50) && ((σ.2.2.2.1 k1).1 == 50) && decide (0 ≤ sp) && decide (0 ≤ dp) && decide (0 ≤ n) && decide (sp + n ≤ (σ.2.2.2.1 k0).2) && decide (dp + n ≤ (σ.2.2.2.1 k1).2) && decide (szS S ≤ 8) then
          some (S, σ.1, σ.2.1, σ.2.2.1, σ.2.2.2.1, cpI σ.2.2.2.2.1 k0 k1 sp dp n, σ.2.2.2.2.2) else none
      | _ => none
    | some 2 => match S with
      | .inl x :: S => if decide (-2147483648 < x) && decide (x < 2147483648) && decide (szS S ≤ 8) then some (.inl (if 0 ≤ x then x else -x) :: S, σ) else none
      | _ => none
    | some 3 => match S with
      | .inl y :: .inl x :: S => if inB x && inB y && decide (szS S ≤ 8) then some (.inl (if x < y then y else x) :: S, σ) else none
      | _ => none
    | some 4 => match S with
      | .inl y :: .inl x :: S => if inB x && inB y && decide (szS S ≤ 8) then some (.inl (if x < y then x else y) :: S, σ) else none
      | _ => none
    | some 1 => match S with
      | .inl x :: S => if decide (0 ≤ x) && decide (x < 32) && decide (szS S ≤ 8) then some (.inl (bitC x) :: S, σ) else none
      | _ => none
    | _ => none
  | _ => none
def cmpB (c : Jvm.ClassFile.Cond) (x y : Int) : Bool := match c with
  | .eq => decide (x = y)
  | .ne => decide (x ≠ y)
  | .lt => decide (x < y)
  | .ge => decide (y ≤ x)
  | .gt => decide (y < x)
  | .le => decide (x ≤ y)
def toPc (pc : Nat) (off : Int) : Option Nat := if decide (0 ≤ (pc : Int) + off) then some ((pc : Int) + off).toNat else none
-- JUMPS: the next place and the stack
def s3 (i : Instr) (pc len : Nat) (S : List jV) : Option (Nat × List jV) :=
  match i with
  | .goto off => (toPc pc off).map (fun t => (t, S))
  | .ifCond c off => match S with
    | .inl x :: S => if inB x then (toPc pc off).map (fun t => (if cmpB c x 0 then t else pc + len, S)) else none
    | _ => none
  | .if_icmp c off => match S with
    | .inl y :: .inl x :: S => if inB x && inB y then (toPc pc off).map (fun t => (if cmpB c x y then t else pc + len, S)) else none
    | _ => none
  | .tableswitch d lo hi offs => match S with
    | .inl x :: S => if inB x then if x < lo ∨ hi < x then (toPc pc d).map (fun t => (t, S)) else (offs[(x - lo).toNat]?).bind (fun off => (toPc pc off).map (fun t => (t, S))) else none
    | _ => none
  | .lookupswitch d ps => match S with
    | .inl x :: S => if inB x && (ps.toList.zip (ps.toList.drop 1)).all (fun (a, next) => a.1 < next.1) then (toPc pc (Op.lookupswitch.offset ps.toList d x)).map (fun t => (t, S)) else none
    | _ => none
  | _ => none
-- ENDS
def s4 (rt : Option FieldType) (i : Instr) (S : List jV) : Option (Option jV) :=
  match i with
  | .ireturn => match S, rt with
    | [.inl x], some .int => some (some (.inl x))
    | [.inl x], some .boolean => if decide (x = 0) || decide (x = 1) then some (some (.inl x)) else none
    | _, _ => none
  | .areturn => match S, rt with
    | [.inr (.inr (some k))], some (.object _) => some (some (.inr (.inr (some k))))
    | _, _ => none
  | .return_ => match S, rt with
    | [], none => some none
    | _, _ => none
  | _ => none
-- CALLS: the method, its arguments, what stays on the stack
def s5 (o : Nat) (i : Instr) (S : List jV) (σ : jS) : Option (Nat × List jV × List jV) :=
  match i with
  | .invokestatic n => (tS o n).bind (fun m => (popN (mP m) S).bind (fun q => if szS q.2 ≤ 8 then some (m, q.1, q.2) else none))
  | .invokespecial n => match (tI o n).orElse (fun _ => (tJ o n).orElse (fun _ => tP o n)) with
    | some m => (popN (mP m) S).bind (fun q => match q.2 with
      | .inr (.inr (some k)) :: r => if decide (szS r ≤ 8) && decide (k < σ.2.1) && decide ((σ.2.2.2.1 k).1 < 12) then some (m, .inr (.inr (some k)) :: q.1, r) else none
      | _ => none)
    | none => none
  | .invokevirtual n => (tVn o n).bind (fun np => (popN np S).bind (fun q => match q.2 with
      | .inr (.inr (some k)) :: r => if decide (szS r ≤ 8) && decide (k < σ.2.1) && decide ((σ.2.2.2.1 k).2 = 0) then (tV o n (σ.2.2.2.1 k).1).map (fun m => (m, .inr (.inr (some k)) :: q.1, r)) else none
      | _ => none))
  | _ => none
/-- the length of an instruction, where it is the same everywhere -/
def ilen (i : Instr) : Nat := match i with
  | .iload _ | .lload _ | .aload _ | .istore _ | .astore _ | .lstore _ | .bipush _ | .ldc _ | .newarray _ => 2
  | .iinc _ _ | .sipush _ | .ldc_w _ | .ldc2_w _ | .getfield _ | .putfield _ | .instanceof _ | .new _ | .anewarray _ | .invokespecial _ | .invokestatic _ | .invokevirtual _ | .goto _ | .ifCond _ _ | .if_icmp _ _ => 3
  | _ => 1
def lenOk (i : Instr) (len : Nat) : Bool := match i with
  | .tableswitch _ _ _ _ => true
  | .lookupswitch _ _ => true
  | _ => len == ilen i
def isInit (m : Nat) : Bool := (mY m).name == "<init>"
/-- the run of a method from a place on: fuel, how deep calls may go -/
def run : Nat → Nat → Nat → Nat → jL → List jV → jS → Option (Option jV × jS)
  | 0, _, _, _, _, _, _ => none
  | f + 1, d, m, pc, L, S, σ =>
    match decode (mB m) pc with
    | .ok (i, len) => if lenOk i len then
      match s1 (mO m) i L S with
      | some (L, S) => run f d m (pc + len) L S σ
      | none => match s2 (mO m) (isInit m) i S σ with
        | some (S, σ) => run f d m (pc + len) L S σ
        | none => match s3 i pc len S with
          | some (pc, S) => run f d m pc L S σ
          | none => match s4 (mR m) i S with
            | some r => some (r, σ)
            | none => match s5 (mO m) i S σ with
              | some (m', a, S) => match d with
                | 0 => none
                | d + 1 => match (if szS a ≤ mL m' then run f d m' 0 (iniL (mL m') a) [] σ else none) with
                  | some (r, σ) => run f (d + 1) m (pc + 3) L (r.toList ++ S) σ
                  | none => none
              | none => none
      else none
    | _ => none
theorem run_more : ∀ (f d m pc : Nat) (L : jL) (S : List jV) (σ : jS) (r : Option jV × jS), run f d m pc L S σ = some r → run (f + 1) d m pc L S σ = some r := by
  intro f
  induction f with
  | zero => intro d m pc L S σ r h; simp [run] at h
  | succ f ih =>
    intro d m pc L S σ r h
    unfold run at h ⊢
    split at h <;> try simp at h
    rename_i i len hd
    obtain ⟨hlen, h⟩ := h
    rw [if_pos hlen]
    cases h1 : s1 (mO m) i L S with
    | some q => rw [h1] at h; exact ih _ _ _ _ _ _ _ h
    | none =>
      rw [h1] at h
      dsimp only at h ⊢
      cases h2 : s2 (mO m) (isInit m) i S σ with
      | some q => rw [h2] at h; exact ih _ _ _ _ _ _ _ h
      | none =>
        rw [h2] at h
        dsimp only at h ⊢
        cases h3 : s3 i pc len S with
        | some q => rw [h3] at h; exact ih _ _ _ _ _ _ _ h
        | none =>
          rw [h3] at h
          dsimp only at h ⊢
          cases h4 : s4 (mR m) i S with
          | some q => rw [h4] at h; exact h
          | none =>
            rw [h4] at h
            dsimp only at h ⊢
            cases h5 : s5 (mO m) i S σ with
            | none => rw [h5] at h; cases h
            | some q =>
              obtain ⟨m', a, S'⟩ := q
              rw [h5] at h
              dsimp only at h ⊢
              cases d with
              | zero => cases h
              | succ d =>
                dsimp only at h ⊢
                by_cases hz : szS a ≤ mL m'
                · rw [if_pos hz] at h ⊢
                  cases h6 : run f d m' 0 (iniL (mL m') a) [] σ with
                  | none => rw [h6] at h; cases h
                  | some q =>
                    rw [h6] at h
                    rw [ih _ _ _ _ _ _ _ h6]
                    exact ih _ _ _ _ _ _ _ h
                · rw [if_neg hz] at h; cases h
theorem run_le {f g d m pc : Nat} {L : jL} {S : List jV} {σ : jS} {r : Option jV × jS} (h : f ≤ g) (hr : run f d m pc L S σ = some r) : run g d m pc L S σ = some r := by
  induction h with
  | refl => exact hr
  | step _ ih => exact run_more _ _ _ _ _ _ _ _ ih
end
section
/-! numbers: an Int as the real machine holds it -/
theorem inB_iff {z : Int} : inB z = true ↔ -2147483648 ≤ z ∧ z < 2147483648 := by simp [inB]
theorem oI_t {z : Int} (h : inB z = true) : (Int32.ofInt z).toInt = z := by
  have h := inB_iff.mp h
  exact Int32.toInt_ofInt_of_le (by omega) (by omega)
theorem oI_nat {z : Int} (h : 0 ≤ z) : Int32.ofInt z = nI z.toNat := by
  obtain ⟨n, rfl⟩ := Int.eq_ofNat_of_zero_le h
  exact Int32.ofInt_eq_ofNat
theorem oL_nat {z : Int} (h : 0 ≤ z) : Int64.ofInt z = lN z.toNat := by
  obtain ⟨n, rfl⟩ := Int.eq_ofNat_of_zero_le h
  exact Int64.ofInt_eq_ofNat
theorem oI_lt {x y : Int} (hx : inB x = true) (hy : inB y = true) : Int32.ofInt x < Int32.ofInt y ↔ x < y := by rw [Int32.lt_iff_toInt_lt, oI_t hx, oI_t hy]
theorem oI_le {x y : Int} (hx : inB x = true) (hy : inB y = true) : Int32.ofInt x ≤ Int32.ofInt y ↔ x ≤ y := by rw [Int32.le_iff_toInt_le, oI_t hx, oI_t hy]
theorem oI_eq {x y : Int} (hx : inB x = true) (hy : inB y = true) : Int32.ofInt x = Int32.ofInt y ↔ x = y := by rw [← Int32.toInt_inj, oI_t hx, oI_t hy]
theorem oI_in {x : Int} {n : Nat} (h0 : 0 ≤ x) (h1 : x < n) (hn : n < 100001) : vp_in (Int32.ofInt x) n ∧ (Int32.ofInt x).toNatClampNeg = x.toNat := by
  rw [oI_nat h0]
  exact ⟨vp_in_nI (by omega) (by omega), nI_clamp (by omega)⟩
theorem oI_div {x y : Int} (h0 : 0 ≤ x) (h1 : x < 2147483648) (h2 : 0 < y) (h3 : y < 2147483648) : Int32.ofInt x / Int32.ofInt y = Int32.ofInt (x / y) := by
  rw [oI_nat h0, oI_nat (Int.le_of_lt h2), pk_div (by omega) (by omega) (by omega), oI_nat (Int.ediv_nonneg h0 (Int.le_of_lt h2))]
  congr 1
  obtain ⟨a, rfl⟩ := Int.eq_ofNat_of_zero_le h0
  obtain ⟨b, rfl⟩ := Int.eq_ofNat_of_zero_le (Int.le_of_lt h2)
  rfl
theorem oI_rem {x y : Int} (h0 : 0 ≤ x) (h1 : x < 2147483648) (h2 : 0 < y) (h3 : y < 2147483648) : Int32.ofInt x - Int32.ofInt x / Int32.ofInt y * Int32.ofInt y = Int32.ofInt (x % y) := by
  rw [oI_nat h0, oI_nat (Int.le_of_lt h2), pk_rem (by omega) (by omega) (by omega), oI_nat (Int.emod_nonneg x (by omega))]
  congr 1
  obtain ⟨a, rfl⟩ := Int.eq_ofNat_of_zero_le h0
  obtain ⟨b, rfl⟩ := Int.eq_ofNat_of_zero_le (Int.le_of_lt h2)
  rfl
theorem oL_rem {x y : Int} (h0 : 0 ≤ x) (h1 : x < 9223372036854775808) (h2 : 0 < y) (h3 : y < 9223372036854775808) : Int64.ofInt x - Int64.ofInt x / Int64.ofInt y * Int64.ofInt y = Int64.ofInt (x % y) := by
  rw [oL_nat h0, oL_nat (Int.le_of_lt h2), pk_lRem (by omega) (by omega) (by omega), oL_nat (Int.emod_nonneg x (by omega))]
  congr 1
  obtain ⟨a, rfl⟩ := Int.eq_ofNat_of_zero_le h0
  obtain ⟨b, rfl⟩ := Int.eq_ofNat_of_zero_le (Int.le_of_lt h2)
  rfl
theorem oI_ne0 {y : Int} (h2 : 0 < y) (h3 : y < 2147483648) : ¬ Int32.ofInt y = 0 := by
  intro h
  have h : Int32.ofInt y = Int32.ofInt 0 := h
  rw [oI_eq (inB_iff.mpr (by omega)) (by decide)] at h
  omega
theorem oL_ne0 {y : Int} (h2 : 0 < y) (h3 : y < 9223372036854775808) : ¬ Int64.ofInt y = 0 := by
  intro h
  have h : Int64.ofInt y = Int64.ofInt 0 := h
  rw [← Int64.toInt_inj, Int64.toInt_ofInt_of_le (by omega) (by omega)] at h
  have h4 : (Int64.ofInt 0).toInt = 0 := by decide
  omega
theorem oI_bv (z : Int) : (Int32.ofInt z).toBitVec.toNat = (z % 4294967296).toNat := by
  rw [Int32.toBitVec_ofInt, BitVec.toNat_ofInt]
  rfl
theorem sh_c : ∀ n, n < 32 → ((nI n &&& 31).toBitVec.smod 32).toNat = n := by decide +kernel
theorem oI_shl {x y : Int} (h0 : 0 ≤ y) (h1 : y < 32) : Int32.ofInt x <<< (Int32.ofInt y &&& 31) = Int32.ofInt (x * 2 ^ y.toNat) := by
  apply Int32.toBitVec.inj
  apply BitVec.eq_of_toNat_eq
  rw [oI_nat h0, pk_shl _ _ y.toNat (sh_c _ (by omega)), oI_bv, oI_bv]
  generalize y.toNat = k
  have h2 : (0 : Int) ≤ x % 4294967296 := Int.emod_nonneg x (by omega)
  obtain ⟨a, ha⟩ := Int.eq_ofNat_of_zero_le h2
  have h3 : x * 2 ^ k % 4294967296 = ((a * 2 ^ k % 4294967296 : Nat) : Int) := by
    rw [Int.natCast_emod, Int.natCast_mul, Int.natCast_pow, ← ha]
    show _ = x % 4294967296 * 2 ^ k % 4294967296
    have e1 := Int.mul_emod x (2 ^ k) 4294967296
    have e2 := Int.mul_emod (x % 4294967296) (2 ^ k) 4294967296
    rw [Int.emod_emod] at e2
    exact e1.trans e2.symm
  rw [h3, ha]
  rfl
theorem wr_rng (x : Int) : -2147483648 ≤ wr x ∧ wr x < 2147483648 := by
  have h1 := Int.le_bmod (x := x) (m := 4294967296) (by omega)
  have h2 := Int.bmod_lt (x := x) (m := 4294967296) (by omega)
  unfold wr
  omega
theorem wr_id {x : Int} (h : -2147483648 ≤ x) (h2 : x < 2147483648) : wr x = x := by
  unfold wr
  exact Int.bmod_eq_of_le (by omega) (by omega)
theorem oI_wr (x : Int) : (Int32.ofInt x).toInt = wr x := Int32.toInt_ofInt
theorem oI_shr {x y : Int} (h0 : 0 ≤ y) (h1 : y < 32) : Int32.ofInt x >>> (Int32.ofInt y &&& 31) = Int32.ofInt (wr x / 2 ^ y.toNat) := by
  apply Int32.toInt_inj.mp
  rw [oI_nat h0, pk_shr _ _ y.toNat (sh_c _ (by omega)), oI_wr, Int.shiftRight_eq_div_pow]
  generalize y.toNat = k
  have h2 := wr_rng x
  have h3 : (0 : Int) < ((2 ^ k : Nat) : Int) := by
    have := Nat.two_pow_pos k
    omega
  have h4 : wr x / ((2 ^ k : Nat) : Int) < 2147483648 := by
    rcases Int.lt_or_le (wr x) 0 with h | h
    · have := Int.ediv_neg_of_neg_of_pos h h3
      omega
    · have := Int.ediv_le_self ((2 ^ k : Nat) : Int) h
      omega
  have h5 : -2147483648 ≤ wr x / ((2 ^ k : Nat) : Int) := by
    apply (Int.le_ediv_iff_mul_le h3).mpr
    have : (1 : Int) ≤ ((2 ^ k : Nat) : Int) := h3
    have h6 : (-2147483648 : Int) * ((2 ^ k : Nat) : Int) ≤ -2147483648 * 1 := Int.mul_le_mul_of_nonpos_left (by omega) this
    omega
  have h7 : ((2 ^ k : Nat) : Int) = (2 : Int) ^ k := by push_cast; rfl
  rw [← h7, oI_wr, wr_id h5 h4]
theorem oI_and63 (x : Int) : Int32.ofInt x &&& Int32.ofInt 63 = Int32.ofInt (x % 64) := by
  rw [pk_and _ 6 (by decide), oI_bv, oI_nat (Int.emod_nonneg x (by omega))]
  congr 1
  omega
theorem oI_and1 (x : Int) : Int32.ofInt x &&& Int32.ofInt 1 = Int32.ofInt (x % 2) := by
  rw [pk_and _ 1 (by decide), oI_bv, oI_nat (Int.emod_nonneg x (by omega))]
  congr 1
  omega
theorem nI_or (a b : Nat) : nI a ||| nI b = nI (a ||| b) := by
  apply Int32.toBitVec.inj
  apply BitVec.eq_of_toNat_eq
  show (BitVec.ofNat 32 a ||| BitVec.ofNat 32 b).toNat = (BitVec.ofNat 32 (a ||| b)).toNat
  rw [BitVec.toNat_or, BitVec.toNat_ofNat, BitVec.toNat_ofNat, BitVec.toNat_ofNat, Nat.or_mod_two_pow]
theorem oI_or {x y : Int} (h0 : 0 ≤ x) (h1 : 0 ≤ y) : Int32.ofInt x ||| Int32.ofInt y = Int32.ofInt ((x.toNat ||| y.toNat : Nat) : Int) := by
  rw [oI_nat h0, oI_nat h1, nI_or, Int32.ofInt_eq_ofNat]
  rfl
theorem oI_b (x : Int) : (Int32.ofInt x).toInt8.toInt32 = Int32.ofInt (x.bmod 256) := by
  apply Int32.toInt_inj.mp
  rw [Int8.toInt_toInt32, Int32.toInt8_ofInt, Int8.toInt_ofInt, oI_wr]
  show x.bmod 256 = _
  have h1 := Int.le_bmod (x := x) (m := 256) (by omega)
  have h2 := Int.bmod_lt (x := x) (m := 256) (by omega)
  exact (wr_id (by omega) (by omega)).symm
theorem oI_s (x : Int) : (Int32.ofInt x).toInt16.toInt32 = Int32.ofInt (x.bmod 65536) := by
  apply Int32.toInt_inj.mp
  rw [Int16.toInt_toInt32, Int32.toInt16_ofInt, Int16.toInt_ofInt, oI_wr]
  show x.bmod 65536 = _
  have h1 := Int.le_bmod (x := x) (m := 65536) (by omega)
  have h2 := Int.bmod_lt (x := x) (m := 65536) (by omega)
  exact (wr_id (by omega) (by omega)).symm
theorem oI_i2l {x : Int} (h : inB x = true) : (Int32.ofInt x).toInt64 = Int64.ofInt x := by
  apply Int64.toInt_inj.mp
  have h2 := inB_iff.mp h
  rw [Int32.toInt_toInt64, oI_t h, Int64.toInt_ofInt_of_le (by omega) (by omega)]
theorem oI_bi {z : Int} (h : -128 ≤ z) (h2 : z ≤ 127) : (Int8.ofInt z).toInt32 = Int32.ofInt z := by
  apply Int32.toInt_inj.mp
  rw [Int8.toInt_toInt32, Int8.toInt_ofInt, oI_wr, wr_id (by omega) (by omega)]
  show z.bmod 256 = _
  exact Int.bmod_eq_of_le (by omega) (by omega)
theorem oI_si {z : Int} (h : -32768 ≤ z) (h2 : z ≤ 32767) : (Int16.ofInt z).toInt32 = Int32.ofInt z := by
  apply Int32.toInt_inj.mp
  rw [Int16.toInt_toInt32, Int16.toInt_ofInt, oI_wr, wr_id (by omega) (by omega)]
  show z.bmod 65536 = _
  exact Int.bmod_eq_of_le (by omega) (by omega)
end
section
/-! THE REAL MACHINE BESIDE THE SMALL ONE: values, locals, cells (b: the address of cell 0) -/
def rv (b : Nat) (v : jV) : Value := match v with
  | .inl z => .int (Int32.ofInt z)
  | .inr (.inl z) => .long (Int64.ofInt z)
  | .inr (.inr (some k)) => .ref (b + k)
  | .inr (.inr none) => .null
theorem rv_cat (b : Nat) (v : jV) : (rv b v).category = if isL v then 2 else 1 := by
  rcases v with z | z | (_ | k) <;> rfl
def jLs (b nL : Nat) (ls : Array Slot) (L : jL) : Prop := L.length = nL ∧ ls.size = nL ∧ lv_wf ls ∧ ∀ (i : Nat) (v : jV), lget L i = some v → ls[i]? = some (.val (rv b v))
def lsl (b : Nat) (L : jL) : List (Nat × Value) := (List.range L.length).filterMap (fun i => (lget L i).map (fun v => (i, rv b v)))
theorem lget_lt {L : jL} {i : Nat} {v : jV} (h : lget L i = some v) : i < L.length := by
  unfold lget at h
  rcases Nat.lt_or_ge i L.length with q | q
  · exact q
  · rw [List.getElem?_eq_none q] at h
    cases h
theorem mem_lsl {b : Nat} {L : jL} {i : Nat} {v : jV} (h : lget L i = some v) : (i, rv b v) ∈ lsl b L := by
  refine List.mem_filterMap.mpr ⟨i, List.mem_range.mpr (lget_lt h), ?_⟩
  rw [h]
  rfl
theorem lsl_mem {b : Nat} {L : jL} {q : Nat × Value} (h : q ∈ lsl b L) : ∃ v, lget L q.1 = some v ∧ q.2 = rv b v := by
  obtain ⟨i, -, hi⟩ := List.mem_filterMap.mp h
  obtain ⟨v, hv, e⟩ := Option.map_eq_some_iff.mp hi
  subst e
  exact ⟨v, hv, rfl⟩
theorem jLs.has {b nL : Nat} {ls : Array Slot} {L : jL} (h : jLs b nL ls L) : lv_has ls nL (lsl b L) := by
  refine ⟨h.2.1, h.2.2.1, fun q hq => ?_⟩
  obtain ⟨v, h1, h2⟩ := lsl_mem hq
  rw [h2]
  exact h.2.2.2 _ _ h1
theorem lget_set {L : jL} {i j : Nat} {v : jV} {x : Option jV} (h : lget (L.set i x) j = some v) : (j = i ∧ x = some v) ∨ (j ≠ i ∧ lget L j = some v) := by
  unfold lget at h ⊢
  rw [List.getElem?_set] at h
  by_cases hj : i = j
  · subst hj
    rw [if_pos rfl] at h
    split at h
    · left
      exact ⟨rfl, h⟩
    · cases h
  · rw [if_neg hj] at h
    right
    exact ⟨fun e => hj e.symm, h⟩
theorem noL_use {L : jL} {i j : Nat} {v : jV} (hn : noL L i = true) (hj : j + 1 = i) (hv : lget L j = some v) : isL v = false := by
  subst hj
  simp only [noL, hv] at hn
  simpa using hn
theorem jLs.put {b nL i : Nat} {ls' : Array Slot} {L L' : jL} {v : jV} (hn : L.length = nL) (h : lput L i v = some L') (h2 : lv_has ls' nL ((i, rv b v) :: (lsl b L).filter (fun q => !(q.1 == i) && !(q.1 + 1 == i && q.2.category == 2)))) : jLs b nL ls' L' := by
  unfold lput at h
  split at h <;> cases h
  rename_i hc
  simp only [Bool.and_eq_true, decide_eq_true_eq] at hc
  refine ⟨by rw [List.length_set]; exact hn, h2.1, h2.2.1, fun j w hw => ?_⟩
  rcases lget_set hw with ⟨rfl, e⟩ | ⟨hj, hw⟩
  · cases e
    exact h2.2.2 (j, rv b v) List.mem_cons_self
  · refine h2.2.2 (j, rv b w) (List.mem_cons_of_mem _ (List.mem_filter.mpr ⟨mem_lsl hw, ?_⟩))
    have h3 : (j == i) = false := by simpa using hj
    by_cases h4 : j + 1 = i
    · simp [h3, h4, rv_cat, noL_use hc.2 h4 hw]
    · simp [h3, h4]
theorem jLs.put2 {b nL i : Nat} {ls' : Array Slot} {L L' : jL} {v : jV} (hn : L.length = nL) (h : lput2 L i v = some L') (h2 : lv_has ls' nL ((i, rv b v) :: (lsl b L).filter (fun q => !(q.1 == i) && (!(q.1 == i + 1) && !(q.1 + 1 == i && q.2.category == 2))))) : jLs b nL ls' L' := by
  unfold lput2 at h
  split at h <;> cases h
  rename_i hc
  simp only [Bool.and_eq_true, decide_eq_true_eq] at hc
  refine ⟨by rw [List.length_set, List.length_set]; exact hn, h2.1, h2.2.1, fun j w hw => ?_⟩
  rcases lget_set hw with ⟨-, e⟩ | ⟨hj1, hw⟩
  · cases e
  rcases lget_set hw with ⟨rfl, e⟩ | ⟨hj, hw⟩
  · cases e
    exact h2.2.2 (j, rv b v) List.mem_cons_self
  · refine h2.2.2 (j, rv b w) (List.mem_cons_of_mem _ (List.mem_filter.mpr ⟨mem_lsl hw, ?_⟩))
    have h3 : (j == i) = false := by simpa using hj
    have h5 : (j == i + 1) = false := by simpa using hj1
    by_cases h4 : j + 1 = i
    · simp [h3, h5, h4, rv_cat, noL_use hc.2 h4 hw]
    · simp [h3, h5, h4]
theorem lput_lt {L L' : jL} {i : Nat} {v : jV} (h : lput L i v = some L') : i < L.length := by
  unfold lput at h
  split at h <;> cases h
  rename_i hc
  simp only [Bool.and_eq_true, decide_eq_true_eq] at hc
  exact hc.1
theorem lput2_lt {L L' : jL} {i : Nat} {v : jV} (h : lput2 L i v = some L') : i + 1 < L.length := by
  unfold lput2 at h
  split at h <;> cases h
  rename_i hc
  simp only [Bool.and_eq_true, decide_eq_true_eq] at hc
  exact hc.1
end
section
section W1
variable {p : Program} {l : Launch} {e : Env} {R : Room} {s : State} {m : MethodId} {args : Array Value} {below : List Frame} {meth : Method} {c : Code} {H : Heap} {locs : List Loc} {cells slots : Nat} {Q : State → Prop} {cc : ByteArray} {b nL pc o : Nat} {ls : Array Slot} {L L' : jL} {S S' : List jV}
theorem find_mem {α β : Type} {l : List α} {f : α → Bool} {g : α → β} {x : β} (h : (l.find? f).map g = some x) : ∃ e ∈ l, f e = true ∧ g e = x := by
  obtain ⟨e, he, rfl⟩ := Option.map_eq_some_iff.mp h
  exact ⟨e, List.mem_of_find?_eq_some he, List.find?_some he, rfl⟩
theorem tK_use {n : Nat} {z : Int} (hts : ∀ w ∈ jW, w.before args s = true) (h : tK o n = some z) : (Cond.constant (oN o) n (Int32.ofInt z)).before args s = true := by
  obtain ⟨e, he, h1, h2⟩ := find_mem h
  have h3 := List.all_eq_true.mp tK_ok e he
  simp only [Bool.and_eq_true, beq_iff_eq, decide_eq_true_eq] at h1 h3
  obtain ⟨rfl, rfl⟩ := h1
  subst h2
  exact hts _ (jW_mem h3 rfl)
theorem tKK_use {n : Nat} {z : Int} (hts : ∀ w ∈ jW, w.before args s = true) (h : tKK o n = some z) : (Cond.constantLong (oN o) n (Int64.ofInt z)).before args s = true := by
  obtain ⟨e, he, h1, h2⟩ := find_mem h
  have h3 := List.all_eq_true.mp tKK_ok e he
  simp only [Bool.and_eq_true, beq_iff_eq, decide_eq_true_eq] at h1 h3
  obtain ⟨rfl, rfl⟩ := h1
  subst h2
  exact hts _ (jW_mem h3 rfl)
set_option maxHeartbeats 4000000 in
theorem w1 {i : Instr} (hx : p.tables.exec = Jvm.exec) (hb : c.code = cc) (hts : ∀ w ∈ jW, w.before args s = true) (hown : s.vm.findClass (oN o) = some m.cls) (hd : decode cc pc = .ok (i, ilen i)) (hl : jLs b nL ls L) (h : s1 o i L S = some (L', S'))
    (k : ∀ ls' : Array Slot, jLs b nL ls' L' → W p l e R s m args below meth c H locs cells slots Q (F0 m (pc + ilen i) ls' (S'.map (rv b)))) : W p l e R s m args below meth c H locs cells slots Q (F0 m pc ls (S.map (rv b))) := by
  cases i
  case iload n =>
    unfold s1 at h
    dsimp only at h
    split at h <;> cases h
    rename_i z hz
    exact lv_iload hx hb hd (hl.2.2.2 _ _ hz) (k ls hl)
  case iload_n n =>
    unfold s1 at h
    dsimp only at h
    split at h <;> cases h
    rename_i z hz
    exact lv_iload_n hx hb hd rfl (hl.2.2.2 _ _ hz) (k ls hl)
  case lload n =>
    unfold s1 at h
    dsimp only at h
    split at h <;> cases h
    rename_i z hz
    exact lv_lload hx hb hd (hl.2.2.2 _ _ hz) (k ls hl)
  case lload_n n =>
    unfold s1 at h
    dsimp only at h
    split at h <;> cases h
    rename_i z hz
    exact lv_lload_n hx hb hd rfl (hl.2.2.2 _ _ hz) (k ls hl)
  case aload n =>
    unfold s1 at h
    dsimp only at h
    split at h <;> cases h
    rename_i z hz
    exact lv_aload hx hb hd (hl.2.2.2 _ _ hz) (k ls hl)
  case aload_n n =>
    unfold s1 at h
    dsimp only at h
    split at h <;> cases h
    rename_i z hz
    exact lv_aload_n hx hb hd rfl (hl.2.2.2 _ _ hz) (k ls hl)
  case istore n =>
    unfold s1 at h
    dsimp only at h
    split at h
    · rename_i z S0
      obtain ⟨L1, hL, e1⟩ := Option.map_eq_some_iff.mp h
      cases e1
      exact lv_istore hx hb hd hl.has (by rw [← hl.1]; exact lput_lt hL) rfl (fun ls' h' => k ls' (jLs.put hl.1 hL h'))
    · cases h
  case istore_n n =>
    unfold s1 at h
    dsimp only at h
    split at h
    · rename_i z S0
      obtain ⟨L1, hL, e1⟩ := Option.map_eq_some_iff.mp h
      cases e1
      exact lv_istore_n hx hb hd rfl hl.has (by rw [← hl.1]; exact lput_lt hL) rfl (fun ls' h' => k ls' (jLs.put hl.1 hL h'))
    · cases h
  case astore n =>
    unfold s1 at h
    dsimp only at h
    split at h
    · rename_i z S0
      obtain ⟨L1, hL, e1⟩ := Option.map_eq_some_iff.mp h
      cases e1
      exact lv_astore hx hb hd hl.has (by rw [← hl.1]; exact lput_lt hL) rfl (fun ls' h' => k ls' (jLs.put hl.1 hL h'))
    · cases h
  case astore_n n =>
    unfold s1 at h
    dsimp only at h
    split at h
    · rename_i z S0
      obtain ⟨L1, hL, e1⟩ := Option.map_eq_some_iff.mp h
      cases e1
      exact lv_astore_n hx hb hd rfl hl.has (by rw [← hl.1]; exact lput_lt hL) rfl (fun ls' h' => k ls' (jLs.put hl.1 hL h'))
    · cases h
  case lstore n =>
    unfold s1 at h
    dsimp only at h
    split at h
    · rename_i z S0
      obtain ⟨L1, hL, e1⟩ := Option.map_eq_some_iff.mp h
      cases e1
      exact lv_lstore hx hb hd hl.has (by rw [← hl.1]; exact lput2_lt hL) rfl (fun ls' h' => k ls' (jLs.put2 hl.1 hL h'))
    · cases h
  case lstore_n n =>
    unfold s1 at h
    dsimp only at h
    split at h
    · rename_i z S0
      obtain ⟨L1, hL, e1⟩ := Option.map_eq_some_iff.mp h
      cases e1
      exact lv_lstore_n hx hb hd rfl hl.has (by rw [← hl.1]; exact lput2_lt hL) rfl (fun ls' h' => k ls' (jLs.put2 hl.1 hL h'))
    · cases h
  case iinc n d =>
    unfold s1 at h
    dsimp only at h
    split at h
    · rename_i z hz
      obtain ⟨L1, hL, e1⟩ := Option.map_eq_some_iff.mp h
      cases e1
      obtain ⟨j, hj⟩ := List.getElem?_of_mem (mem_lsl (b := b) hz)
      exact lv_iinc hx hb hd hl.has hj (by rw [← Int32.ofInt_add]) (by rw [← hl.1]; exact lput_lt hL) rfl (fun ls' h' => k ls' (jLs.put hl.1 hL h'))
    · cases h
  case iconst z =>
    unfold s1 at h
    dsimp only at h
    cases h
    exact lv_iconst hx hb hd rfl (k ls hl)
  case bipush z =>
    unfold s1 at h
    dsimp only at h
    split at h <;> cases h
    rename_i hc
    simp only [Bool.and_eq_true, decide_eq_true_eq] at hc
    exact lv_bipush hx hb hd (oI_bi hc.1 hc.2) (k ls hl)
  case sipush z =>
    unfold s1 at h
    dsimp only at h
    split at h <;> cases h
    rename_i hc
    simp only [Bool.and_eq_true, decide_eq_true_eq] at hc
    exact lv_sipush hx hb hd (oI_si hc.1 hc.2) (k ls hl)
  case ldc n =>
    unfold s1 at h
    dsimp only at h
    obtain ⟨z, hz, e1⟩ := Option.map_eq_some_iff.mp h
    cases e1
    exact lv_ldc hx hb hown (tK_use hts hz) hd (k ls hl)
  case ldc_w n =>
    unfold s1 at h
    dsimp only at h
    obtain ⟨z, hz, e1⟩ := Option.map_eq_some_iff.mp h
    cases e1
    exact lv_ldcw hx hb hown (tK_use hts hz) hd (k ls hl)
  case ldc2_w n =>
    unfold s1 at h
    dsimp only at h
    obtain ⟨z, hz, e1⟩ := Option.map_eq_some_iff.mp h
    cases e1
    exact lv_ldc2 hx hb hown (tKK_use hts hz) hd (k ls hl)
  case dup =>
    unfold s1 at h
    dsimp only at h
    split at h
    · split at h <;> cases h
      rename_i v S0 hc
      exact lv_dup hx hb hd (by rw [rv_cat, if_neg hc]) (k ls hl)
    · cases h
  case pop =>
    unfold s1 at h
    dsimp only at h
    split at h
    · split at h <;> cases h
      rename_i v hc
      exact lv_pop hx hb hd (by rw [rv_cat, if_neg hc]) (k ls hl)
    · cases h
  case dup2 =>
    unfold s1 at h
    dsimp only at h
    split at h
    · split at h <;> cases h
      rename_i v w S0 hc
      simp only [Bool.or_eq_true, not_or] at hc
      exact lv_dup2_11 hx hb hd (by rw [rv_cat, if_neg hc.1]) (by rw [rv_cat, if_neg hc.2]) (k ls hl)
    · cases h
  case iadd =>
    unfold s1 at h
    dsimp only at h
    split at h <;> cases h
    refine lv_iadd hx hb hd ?_
    rw [← Int32.ofInt_add]
    exact k ls hl
  case isub =>
    unfold s1 at h
    dsimp only at h
    split at h <;> cases h
    refine lv_isub hx hb hd ?_
    rw [← Int32.ofInt_sub]
    exact k ls hl
  case imul =>
    unfold s1 at h
    dsimp only at h
    split at h <;> cases h
    refine lv_imul hx hb hd ?_
    rw [← Int32.ofInt_mul]
    exact k ls hl
  case ineg =>
    unfold s1 at h
    dsimp only at h
    split at h <;> cases h
    refine lv_ineg hx hb hd ?_
    rw [← Int32.ofInt_neg]
    exact k ls hl
  case idiv =>
    unfold s1 at h
    dsimp only at h
    split at h
    · split at h <;> cases h
      rename_i hc
      simp only [Bool.and_eq_true, decide_eq_true_eq] at hc
      refine lv_idiv hx hb hd (oI_ne0 hc.1.2 hc.2) ?_
      rw [oI_div hc.1.1.1 hc.1.1.2 hc.1.2 hc.2]
      exact k ls hl
    · cases h
  case irem =>
    unfold s1 at h
    dsimp only at h
    split at h
    · split at h <;> cases h
      rename_i hc
      simp only [Bool.and_eq_true, decide_eq_true_eq] at hc
      refine lv_irem hx hb hd (oI_ne0 hc.1.2 hc.2) ?_
      rw [oI_rem hc.1.1.1 hc.1.1.2 hc.1.2 hc.2]
      exact k ls hl
    · cases h
  case lrem =>
    unfold s1 at h
    dsimp only at h
    split at h
    · split at h <;> cases h
      rename_i hc
      simp only [Bool.and_eq_true, decide_eq_true_eq] at hc
      refine lv_lrem hx hb hd (oL_ne0 hc.1.2 hc.2) ?_
      rw [oL_rem hc.1.1.1 hc.1.1.2 hc.1.2 hc.2]
      exact k ls hl
    · cases h
  case lmul =>
    unfold s1 at h
    dsimp only at h
    split at h <;> cases h
    refine lv_lmul hx hb hd ?_
    rw [← Int64.ofInt_mul]
    exact k ls hl
  case ishl =>
    unfold s1 at h
    dsimp only at h
    split at h
    · split at h <;> cases h
      rename_i hc
      simp only [Bool.and_eq_true, decide_eq_true_eq] at hc
      refine lv_ishl hx hb hd ?_
      rw [oI_shl hc.1 hc.2]
      exact k ls hl
    · cases h
  case ishr =>
    unfold s1 at h
    dsimp only at h
    split at h
    · split at h <;> cases h
      rename_i hc
      simp only [Bool.and_eq_true, decide_eq_true_eq] at hc
      refine lv_ishr hx hb hd ?_
      rw [oI_shr hc.1 hc.2]
      exact k ls hl
    · cases h
  case iand =>
    unfold s1 at h
    dsimp only at h
    split at h
    · split at h
      · rename_i hc
        cases h
        subst hc
        refine lv_iand hx hb hd ?_
        rw [oI_and63]
        exact k ls hl
      · split at h <;> cases h
        rename_i hc
        subst hc
        refine lv_iand hx hb hd ?_
        rw [oI_and1]
        exact k ls hl
    · cases h
  case ior =>
    unfold s1 at h
    dsimp only at h
    split at h
    · split at h <;> cases h
      rename_i hc
      simp only [Bool.and_eq_true, decide_eq_true_eq] at hc
      refine lv_ior hx hb hd ?_
      rw [oI_or hc.1.1.1 hc.1.2]
      exact k ls hl
    · cases h
  case i2l =>
    unfold s1 at h
    dsimp only at h
    split at h
    · split at h <;> cases h
      rename_i hc
      exact lv_i2l hx hb hd (oI_i2l hc) (k ls hl)
    · cases h
  case l2i =>
    unfold s1 at h
    dsimp only at h
    split at h <;> cases h
    exact lv_l2i hx hb hd Int64.toInt32_ofInt (k ls hl)
  case i2b =>
    unfold s1 at h
    dsimp only at h
    split at h <;> cases h
    exact lv_i2b hx hb hd (oI_b _) (k ls hl)
  case i2s =>
    unfold s1 at h
    dsimp only at h
    split at h <;> cases h
    exact lv_i2s hx hb hd (oI_s _) (k ls hl)
  all_goals (unfold s1 at h; cases h)
end W1
end
section
/-! the cells of a store, as the kit's worlds have them -/
theorem cl_in : (List.range 12).all (fun c => (u_ws (cN c) (cT c) (cF c)).all (fun w => decide (w ∈ lw_tbl) && goodWord w)) = true := by decide +kernel
theorem cl_q : (List.range 12).all (fun c => decide (jcl[c]?.isSome = true)) = true := by decide +kernel
theorem cl_ty : (List.range 12).all (fun c => (List.range (cF c)).all (fun k => match parseFieldDescriptor (cT c k).2.2.1 with
  | some (.object _) => fR c k
  | some (.array _) => fR c k
  | some .int => !fR c k
  | _ => false)) = true := by decide +kernel
theorem cl_own : (List.range 12).all (fun c => decide (cN c = oN (cO c)) && (List.range (cF c)).all (fun k => decide ((cT c k).1 = oN (cO c)))) = true := by decide +kernel
theorem cl_nm : (List.range 12).all (fun c => (List.range (cF c)).all (fun a => (List.range (cF c)).all (fun b => (a == b) || decide ((cT c a).2.1 ≠ (cT c b).2.1)))) = true := by decide +kernel
theorem rng {n : Nat} {f : Nat → Bool} (h : (List.range n).all f = true) {k : Nat} (hk : k < n) : f k = true := List.all_eq_true.mp h k (List.mem_range.mpr hk)
theorem cl_at {c : Nat} (hc : c < 12) : jcl[c]? = some (cN c, cT c, cF c) := by
  have h := rng cl_q hc
  simp only [decide_eq_true_eq] at h
  obtain ⟨q, hq⟩ := Option.isSome_iff_exists.mp h
  rw [hq]
  unfold cN cT cF cQ
  rw [List.getD_eq_getElem?_getD, hq]
  rfl
theorem cl_use {c : Nat} (hc : c < 12) : ∀ w ∈ u_ws (cN c) (cT c) (cF c), w ∈ jW := by
  intro w hw
  have h := List.all_eq_true.mp (rng cl_in hc) w hw
  simp only [Bool.and_eq_true, decide_eq_true_eq] at h
  exact List.mem_filter.mpr h
/-- the type of a field -/
def cY (c k : Nat) : FieldType := (parseFieldDescriptor (cT c k).2.2.1).getD .int
theorem cl_typ {c k : Nat} (hc : c < 12) (hk : k < cF c) : parseFieldDescriptor (cT c k).2.2.1 = some (cY c k) ∧ ((fR c k = true ∧ ((∃ n, cY c k = .object n) ∨ ∃ t, cY c k = .array t)) ∨ (fR c k = false ∧ cY c k = .int)) := by
  have h := rng (rng cl_ty hc) hk
  unfold cY
  revert h
  cases parseFieldDescriptor (cT c k).2.2.1 with
  | none => intro h; cases h
  | some t => cases t <;> intro h <;> simp_all
theorem cl_name {c : Nat} (hc : c < 12) : ∀ a, a < cF c → ∀ b, b < cF c → a ≠ b → (cT c a).2.1 ≠ (cT c b).2.1 := by
  intro a ha b hb hab
  have h := rng (rng (rng cl_nm hc) ha) hb
  simp only [Bool.or_eq_true, beq_iff_eq, decide_eq_true_eq] at h
  exact h.resolve_left hab
def fld (b c : Nat) (I : Int → Int) (R : Int → Option Nat) : List Value := (List.range (cF c)).map (fun (j : Nat) => if fR c j then va_rf ((R j).map (b + ·)) else .int (Int32.ofInt (I j)))
def wE (b : Nat) (ac : Nat → ClassId) (sh : Nat → Nat × Nat) (I : Nat → Int → Int) (R : Nat → Int → Option Nat) (k : Nat) : va_E :=
  if (sh k).1 < 50 then .inr ((sh k).1, fld b (sh k).1 (I k) (R k))
  else if (sh k).1 < 52 then .inl (ac k, (sh k).2, .inl (fun j => Int32.ofInt (I k j)))
  else .inl (ac k, (sh k).2, .inr (.inr (.inr (.inr (fun j => (R k j).map (b + ·))))))
def wld (b : Nat) (ac : Nat → ClassId) (n : Nat) (sh : Nat → Nat × Nat) (I : Nat → Int → Int) (R : Nat → Int → Option Nat) : va_W := (List.range n).map (fun k => (b + k, wE b ac sh I R k))
section WL
variable {b n k : Nat} {ac : Nat → ClassId} {sh sh' : Nat → Nat × Nat} {I I' : Nat → Int → Int} {R R' : Nat → Int → Option Nat}
theorem wld_at (hk : k < n) : (wld b ac n sh I R)[k]? = some (b + k, wE b ac sh I R k) := by
  unfold wld
  rw [List.getElem?_map, List.getElem?_range hk]
  rfl
theorem wld_len : (wld b ac n sh I R).length = n := by simp [wld]
theorem wld_in {q : Nat × va_E} (h : (wld b ac n sh I R)[k]? = some q) : k < n ∧ q = (b + k, wE b ac sh I R k) := by
  have hk : k < n := by
    have := (List.getElem?_eq_some_iff.mp h).1
    rwa [wld_len] at this
  rw [wld_at hk] at h
  exact ⟨hk, (Option.some.inj h).symm⟩
theorem wld_D {A : Nat → Prop} (hA : ∀ k, k < n → A (b + k)) : va_D A (wld b ac n sh I R) := by
  refine ⟨fun i j p q hp hq e => ?_, fun k q hk => ?_⟩
  · obtain ⟨-, rfl⟩ := wld_in hp
    obtain ⟨-, rfl⟩ := wld_in hq
    have e : b + i = b + j := e
    omega
  · obtain ⟨h1, rfl⟩ := wld_in hk
    exact hA k h1
theorem wld_set {e : va_E} (hk : k < n) (h1 : wE b ac sh I' R' k = e) (h2 : ∀ j, j ≠ k → wE b ac sh I' R' j = wE b ac sh I R j) : (wld b ac n sh I R).set k (b + k, e) = wld b ac n sh I' R' := by
  apply List.ext_getElem?
  intro i
  rw [List.getElem?_set, wld_len]
  by_cases hi : k = i
  · subst hi
    rw [if_pos rfl, if_pos hk, wld_at hk, h1]
  · rw [if_neg hi]
    by_cases hn : i < n
    · rw [wld_at hn, wld_at hn, h2 i (fun e => hi e.symm)]
    · rw [List.getElem?_eq_none (by rw [wld_len]; omega), List.getElem?_eq_none (by rw [wld_len]; omega)]
theorem wE_obj {c : Nat} (h : sh k = (c, 0)) (hc : c < 12) : wE b ac sh I R k = .inr (c, fld b c (I k) (R k)) := by
  unfold wE
  rw [h]
  dsimp only
  rw [if_pos (by omega)]
theorem wE_int (h0 : 50 ≤ (sh k).1) (h : (sh k).1 < 52) : wE b ac sh I R k = .inl (ac k, (sh k).2, .inl (fun j => Int32.ofInt (I k j))) := by
  unfold wE
  rw [if_neg (by omega), if_pos h]
theorem wE_ref (h : 52 ≤ (sh k).1) : wE b ac sh I R k = .inl (ac k, (sh k).2, .inr (.inr (.inr (.inr (fun j => (R k j).map (b + ·)))))) := by
  unfold wE
  rw [if_neg (by omega), if_neg (by omega)]
theorem up_ne {α : Type} {f : Nat → Int → α} {j : Nat} {x : Int} {v : α} (h : j ≠ k) : up f k x v j = f j := by
  funext y
  unfold up
  rw [if_neg (fun e => h e.1)]
theorem fld_at {c j : Nat} {I : Int → Int} {R : Int → Option Nat} (hj : j < cF c) : (fld b c I R)[j]? = some (if fR c j then va_rf ((R j).map (b + ·)) else .int (Int32.ofInt (I j))) := by
  unfold fld
  rw [List.getElem?_map, List.getElem?_range hj]
  rfl
theorem fld_len {c : Nat} {I : Int → Int} {R : Int → Option Nat} : (fld b c I R).length = cF c := by simp [fld]
theorem fld_set {c j : Nat} {I I' : Int → Int} {R R' : Int → Option Nat} {v : Value} (hj : j < cF c) (h1 : (if fR c j then va_rf ((R' j).map (b + ·)) else .int (Int32.ofInt (I' j))) = v) (h2 : ∀ i : Nat, i ≠ j → I' i = I i ∧ R' i = R i) : (fld b c I R).set j v = fld b c I' R' := by
  apply List.ext_getElem?
  intro i
  rw [List.getElem?_set, fld_len]
  by_cases hi : j = i
  · subst hi
    rw [if_pos rfl, if_pos hj, fld_at hj, h1]
  · rw [if_neg hi]
    by_cases hn : i < cF c
    · rw [fld_at hn, fld_at hn, (h2 i (fun e => hi e.symm)).1, (h2 i (fun e => hi e.symm)).2]
    · rw [List.getElem?_eq_none (by rw [fld_len]; omega), List.getElem?_eq_none (by rw [fld_len]; omega)]
end WL
/-- the words that aren't among jW: what the state says of them -/
def noC : List (String × String) := [(RX6, RX8), (RX6, RX0), (RX6, RX10), (RX6, RX2), (RX8, RX0), (RX8, RX10), (RX8, RX2), (RX0, RX8), (RX0, RX10), (RX0, RX2), (RX10, RX6), (RX10, RX8), (RX10, RX0), (RX10, RX2), (RX2, RX6), (RX2, RX8), (RX2, RX0)]
def yesC : List (String × String) := [(RX0, RX6), (RX8, RX6), (RX2, RX10), (RX6, RX4), (RX8, RX4), (RX0, RX4), (RX10, RX4), (RX2, RX4)]
def absM : List MethodName := [⟨RX4, "number", "()I"⟩, ⟨RX4, "bearingOn", "(LChairPast$Chair;I)I"⟩, ⟨RX4, "wear", "(LChairPast$Chair;)V"⟩]
def jX (U : State) : Prop := (∀ e ∈ tJl, va_Nw (.methodLinkNest (oN e.1) e.2.1 (mY e.2.2.1) RX11) U) ∧ (∀ y ∈ absM, va_Nw (.declares y) U) ∧ (∀ q ∈ yesC, va_Nw (.castable q.1 q.2) U) ∧ (∀ C ∈ [RX5, RX4, RX1], va_AO C U) ∧ ∀ q ∈ noC, va_Nc q.1 q.2 U
theorem jX.warm {s U : State} (hW : s.WarmedH U.vm) (h : jX s) : jX U := ⟨fun e he => va_Nw.warmM hW (h.1 e he), fun y hy => va_Nw.warmD hW (h.2.1 y hy), fun q hq => va_Nw.warmC hW (h.2.2.1 q hq), fun C hC => va_AO.moved hW.alike (h.2.2.2.1 C hC), fun q hq => va_Nc.moved hW.alike (h.2.2.2.2 q hq)⟩
theorem jX.same {s U : State} (hv : s.vm = U.vm) (h : jX s) : jX U := by
  refine ⟨fun e he => va_Nw.same rfl hv (h.1 e he), fun y hy => va_Nw.same rfl hv (h.2.1 y hy), fun q hq => va_Nw.same rfl hv (h.2.2.1 q hq), fun C hC => va_AO.moved ?_ (h.2.2.2.1 C hC), fun q hq => va_Nc.moved ?_ (h.2.2.2.2 q hq)⟩ <;> (rw [hv]; exact Vm.Alike.refl _)
/-- the store stands in the heap, its cell 0 at b -/
def jR (D : va_G) (b : Nat) (σ : jS) (U : State) (H : Heap) : Prop :=
  ∃ (ac : Nat → ClassId) (tys : List (ClassId × FieldType)), va_K D jcl tys U ∧
    (∀ k, k < σ.2.1 → ((σ.2.2.2.1 k).1 < 12 ∧ (σ.2.2.2.1 k).2 = 0) ∨ (50 ≤ (σ.2.2.2.1 k).1 ∧ (σ.2.2.2.1 k).1 ≤ 54 ∧ (σ.2.2.2.1 k).2 < 100001 ∧ ∃ t0 : Nat, tys[t0]? = some (ac k, aT (σ.2.2.2.1 k).1))) ∧
    va_P D jcl (wld b ac σ.2.1 σ.2.2.2.1 σ.2.2.2.2.1 σ.2.2.2.2.2) H ∧ jX U
theorem jR.warm {D : va_G} {b : Nat} {σ : jS} {s U : State} {H : Heap} (hW : s.WarmedH U.vm) (h : jR D b σ s H) : jR D b σ U H := by
  obtain ⟨ac, tys, h1, h2, h3, h5⟩ := h
  exact ⟨ac, tys, va_K.moved hW.alike h1, h2, h3, h5.warm hW⟩
theorem jR.same {D : va_G} {b : Nat} {σ : jS} {s U : State} {H : Heap} (hv : s.vm = U.vm) (h : jR D b σ s H) : jR D b σ U H := by
  obtain ⟨ac, tys, h1, h2, h3, h5⟩ := h
  exact ⟨ac, tys, va_K.moved (by rw [hv]; exact Vm.Alike.refl _) h1, h2, h3, h5.same hv⟩
end
section
section W2
variable {p : Program} {l : Launch} {e : Env} {R : Room} {s : State} {m : MethodId} {args : Array Value} {below : List Frame} {meth : Method} {c : Code} {H : Heap} {locs : List Loc} {cells slots : Nat} {Q : State → Prop} {cc : ByteArray} {b nL pc o : Nat} {ls : Array Slot} {rest : List Value} {D : va_G} {σ : jS} {A : Nat → Prop}
theorem tF_use {n ci j rf fin : Nat} (hts : ∀ w ∈ jW, w.before args s = true) (h : tF o n = some (ci, j, rf, fin)) : ci < 12 ∧ j < cF ci ∧ fR ci j = (rf == 1) ∧ (cT ci j).2.2.2 = (fin == 1) ∧ (Cond.fieldLink (oN o) n (cT ci j).1 (cT ci j).2.1 (cT ci j).2.2.1).before args s = true := by
  obtain ⟨⟨e0, e1, e2, e3, e4, e5, e6⟩, he, h1, h2⟩ := find_mem h
  have h3 := List.all_eq_true.mp tF_ok _ he
  simp only [Bool.and_eq_true, beq_iff_eq, decide_eq_true_eq] at h1 h3
  obtain ⟨rfl, rfl⟩ := h1
  cases h2
  exact ⟨h3.1.1.2, h3.1.1.1.2, h3.1.2, h3.2, hts _ (jW_mem h3.1.1.1.1 rfl)⟩
theorem rv_rf (b : Nat) (r : Option Nat) : rv b (.inr (.inr r)) = va_rf (r.map (b + ·)) := by cases r <;> rfl
theorem w_get {n k ci j rf fin : Nat} (hx : p.tables.exec = Jvm.exec) (hb : c.code = cc) (hts : ∀ w ∈ jW, w.before args s = true) (hown : s.vm.findClass (oN o) = some m.cls) (hd : decode cc pc = .ok (.getfield n, 3)) (hR : jR D b σ s H)
    (ht : tF o n = some (ci, j, rf, fin)) (hk : k < σ.2.1) (hs : σ.2.2.2.1 k = (ci, 0)) (kk : W p l e R s m args below meth c H locs cells slots Q (F0 m (pc + 3) ls (rv b (if rf == 1 then .inr (.inr (σ.2.2.2.2.2 k j)) else .inl (σ.2.2.2.2.1 k j)) :: rest))) : W p l e R s m args below meth c H locs cells slots Q (F0 m pc ls (.ref (b + k) :: rest)) := by
  obtain ⟨ac, tys, hK, -, hP, -⟩ := hR
  obtain ⟨h1, h2, h3, -, h4⟩ := tF_use hts ht
  refine va_get hx hb hts (cl_use h1) hown hK hP k (by rw [wld_at hk, wE_obj hs h1]) (cl_at h1) j h2 h4 (fun _ h => h) (by rw [fld_at h2, h3]) hd ?_
  cases hrf : (rf == 1)
  · rw [hrf] at kk; exact kk
  · rw [hrf] at kk; rw [if_pos rfl] at kk ⊢; rw [rv_rf] at kk; exact kk
theorem jR_set {k : Nat} {e : va_E} {ac : Nat → ClassId} {tys : List (ClassId × FieldType)} {I' : Nat → Int → Int} {R' : Nat → Int → Option Nat} {H1 : Heap} (hK : va_K D jcl tys s)
    (hT : ∀ k, k < σ.2.1 → ((σ.2.2.2.1 k).1 < 12 ∧ (σ.2.2.2.1 k).2 = 0) ∨ (50 ≤ (σ.2.2.2.1 k).1 ∧ (σ.2.2.2.1 k).1 ≤ 54 ∧ (σ.2.2.2.1 k).2 < 100001 ∧ ∃ t0 : Nat, tys[t0]? = some (ac k, aT (σ.2.2.2.1 k).1)))
    (hX : jX s) (hk : k < σ.2.1) (h1 : wE b ac σ.2.2.2.1 I' R' k = e) (h2 : ∀ j, j ≠ k → wE b ac σ.2.2.2.1 I' R' j = wE b ac σ.2.2.2.1 σ.2.2.2.2.1 σ.2.2.2.2.2 j)
    (hP : va_P D jcl ((wld b ac σ.2.1 σ.2.2.2.1 σ.2.2.2.2.1 σ.2.2.2.2.2).set k (b + k, e)) H1) : jR D b (σ.1, σ.2.1, σ.2.2.1, σ.2.2.2.1, I', R') s H1 := by
  rw [wld_set hk h1 h2] at hP
  exact ⟨ac, tys, hK, hT, hP, hX⟩
theorem wE_I {k j : Nat} {ac : Nat → ClassId} {sh : Nat → Nat × Nat} {I : Nat → Int → Int} {Rf : Nat → Int → Option Nat} {x z : Int} (h : j ≠ k) : wE b ac sh (up I k x z) Rf j = wE b ac sh I Rf j := by unfold wE; rw [up_ne h]
theorem wE_R {k j : Nat} {ac : Nat → ClassId} {sh : Nat → Nat × Nat} {I : Nat → Int → Int} {Rf : Nat → Int → Option Nat} {x : Int} {z : Option Nat} (h : j ≠ k) : wE b ac sh I (up Rf k x z) j = wE b ac sh I Rf j := by unfold wE; rw [up_ne h]
theorem up_at {α : Type} {f : Nat → Int → α} {k : Nat} {x : Int} {v : α} : up f k x v k x = v := by simp [up]
theorem up_off {α : Type} {f : Nat → Int → α} {k : Nat} {x y : Int} {v : α} (h : y ≠ x) : up f k x v k y = f k y := by simp [up, h]

theorem w_putI {n k ci j rf fin : Nat} {z : Int} (hx : p.tables.exec = Jvm.exec) (hb : c.code = cc) (hts : ∀ w ∈ jW, w.before args s = true) (hown : s.vm.findClass (oN o) = some m.cls) (hd : decode cc pc = .ok (.putfield n, 3)) (hR : jR D b σ s H) (hS : va_S A s.heap H locs) (hA : ∀ k, k < σ.2.1 → A (b + k))
    (ht : tF o n = some (ci, j, rf, fin)) (hk : k < σ.2.1) (hs : σ.2.2.2.1 k = (ci, 0)) (hrf : rf = 0) (hfin : fin = 0)
    (kk : ∀ (H1 : Heap) (locs1 : List Loc), jR D b (σ.1, σ.2.1, σ.2.2.1, σ.2.2.2.1, up σ.2.2.2.2.1 k j z, σ.2.2.2.2.2) s H1 → va_S A s.heap H1 locs1 → W p l e R s m args below meth c H1 locs1 cells slots Q (F0 m (pc + 3) ls rest)) : W p l e R s m args below meth c H locs cells slots Q (F0 m pc ls (.int (Int32.ofInt z) :: .ref (b + k) :: rest)) := by
  obtain ⟨ac, tys, hK, hT, hP, hX⟩ := hR
  obtain ⟨h1, h2, h3, h4, h5⟩ := tF_use hts ht
  subst hrf; subst hfin
  have hty := cl_typ h1 h2
  have hint : cY ci j = .int := by
    rcases hty.2 with ⟨q, -⟩ | ⟨-, q⟩
    · rw [h3] at q; cases q
    · exact q
  refine va_put hx hb hts (cl_use h1) (cY ci) (fun k hk => (cl_typ h1 hk).1) (cl_name h1) hown hK hP (wld_D hA) hS k (by rw [wld_at hk, wE_obj hs h1]) (cl_at h1) j h2 h5 (fun _ h => h) h4 (by rw [hty.1, hint]) rfl rfl (by rw [fld_len]; exact h2) hd (fun H1 locs1 hP1 _ hS1 => kk H1 locs1 ?_ hS1)
  refine jR_set hK hT hX hk ?_ (fun j hj => wE_I hj) hP1
  rw [wE_obj hs h1, fld_set h2 (I' := up σ.2.2.2.2.1 k j z k) (R' := σ.2.2.2.2.2 k)]
  · rw [h3, up_at]; rfl
  · intro i hi
    exact ⟨up_off (by omega), rfl⟩
theorem w_putR {n k q ci j rf fin : Nat} (hx : p.tables.exec = Jvm.exec) (hb : c.code = cc) (hts : ∀ w ∈ jW, w.before args s = true) (hown : s.vm.findClass (oN o) = some m.cls) (hd : decode cc pc = .ok (.putfield n, 3)) (hR : jR D b σ s H) (hS : va_S A s.heap H locs) (hA : ∀ k, k < σ.2.1 → A (b + k))
    (ht : tF o n = some (ci, j, rf, fin)) (hk : k < σ.2.1) (hs : σ.2.2.2.1 k = (ci, 0)) (hrf : rf = 1) (hfin : fin = 0 ∨ (meth.name = "<init>" ∧ cO ci = o))
    (kk : ∀ (H1 : Heap) (locs1 : List Loc), jR D b (σ.1, σ.2.1, σ.2.2.1, σ.2.2.2.1, σ.2.2.2.2.1, up σ.2.2.2.2.2 k j (some q)) s H1 → va_S A s.heap H1 locs1 → W p l e R s m args below meth c H1 locs1 cells slots Q (F0 m (pc + 3) ls rest)) : W p l e R s m args below meth c H locs cells slots Q (F0 m pc ls (.ref (b + q) :: .ref (b + k) :: rest)) := by
  obtain ⟨ac, tys, hK, hT, hP, hX⟩ := hR
  obtain ⟨h1, h2, h3, h4, h5⟩ := tF_use hts ht
  subst hrf
  have hty := cl_typ h1 h2
  have href : (∃ n, cY ci j = .object n) ∨ ∃ t, cY ci j = .array t := by
    rcases hty.2 with ⟨-, q⟩ | ⟨q, -⟩
    · exact q
    · rw [h3] at q; cases q
  have hn : narrow (cY ci j) (.ref (b + q)) = .ref (b + q) := by rcases href with ⟨n, e⟩ | ⟨t, e⟩ <;> rw [e] <;> rfl
  have hf : fits (cY ci j) (.ref (b + q)) = true := by rcases href with ⟨n, e⟩ | ⟨t, e⟩ <;> rw [e] <;> rfl
  have fin : ∀ (H1 : Heap), va_P D jcl ((wld b ac σ.2.1 σ.2.2.2.1 σ.2.2.2.2.1 σ.2.2.2.2.2).set k (b + k, .inr (ci, (fld b ci (σ.2.2.2.2.1 k) (σ.2.2.2.2.2 k)).set j (.ref (b + q))))) H1 → jR D b (σ.1, σ.2.1, σ.2.2.1, σ.2.2.2.1, σ.2.2.2.2.1, up σ.2.2.2.2.2 k j (some q)) s H1 := by
    intro H1 hP1
    refine jR_set hK hT hX hk ?_ (fun j hj => wE_R hj) hP1
    rw [wE_obj hs h1, fld_set h2 (I' := σ.2.2.2.2.1 k) (R' := up σ.2.2.2.2.2 k j (some q) k)]
    · rw [h3, up_at]; rfl
    · intro i hi
      exact ⟨rfl, up_off (by omega)⟩
  cases hf2 : (cT ci j).2.2.2
  · exact va_put hx hb hts (cl_use h1) (cY ci) (fun k hk => (cl_typ h1 hk).1) (cl_name h1) hown hK hP (wld_D hA) hS k (by rw [wld_at hk, wE_obj hs h1]) (cl_at h1) j h2 h5 (fun _ h => h) hf2 hty.1 hn hf (by rw [fld_len]; exact h2) hd (fun H1 locs1 hP1 _ hS1 => kk H1 locs1 (fin H1 hP1) hS1)
  · rcases hfin with h | ⟨hi, ho⟩
    · subst h
      rw [hf2] at h4; cases h4
    · have h6 := rng cl_own h1
      simp only [Bool.and_eq_true, decide_eq_true_eq] at h6
      have h7 := rng h6.2 h2
      simp only [decide_eq_true_eq] at h7
      rw [ho] at h7
      exact va_putF hx hb hts (cl_use h1) (cY ci) (fun k hk => (cl_typ h1 hk).1) (cl_name h1) hown hK hP (wld_D hA) hS k (by rw [wld_at hk, wE_obj hs h1]) (cl_at h1) j h2 h5 (fun _ h => h) hf2 hi h7 hty.1 hn hf (by rw [fld_len]; exact h2) hd (fun H1 locs1 hP1 _ hS1 => kk H1 locs1 (fin H1 hP1) hS1)
end W2
end
section
section W2b
variable {p : Program} {l : Launch} {e : Env} {R : Room} {s : State} {m : MethodId} {args : Array Value} {below : List Frame} {meth : Method} {c : Code} {H : Heap} {locs : List Loc} {cells slots : Nat} {Q : State → Prop} {cc : ByteArray} {b nL pc o : Nat} {ls : Array Slot} {rest : List Value} {D : va_G} {σ : jS} {A : Nat → Prop}
theorem arr_ty {k : Nat} {ac : Nat → ClassId} {tys : List (ClassId × FieldType)} {sh : Nat → Nat × Nat} {n : Nat}
    (hT : ∀ k, k < n → ((sh k).1 < 12 ∧ (sh k).2 = 0) ∨ (50 ≤ (sh k).1 ∧ (sh k).1 ≤ 54 ∧ (sh k).2 < 100001 ∧ ∃ t0 : Nat, tys[t0]? = some (ac k, aT (sh k).1))) (hk : k < n) (h : 50 ≤ (sh k).1) : (sh k).1 ≤ 54 ∧ (sh k).2 < 100001 ∧ ∃ t0 : Nat, tys[t0]? = some (ac k, aT (sh k).1) := by
  rcases hT k hk with ⟨q, -⟩ | ⟨-, h1, h2, h3⟩
  · omega
  · exact ⟨h1, h2, h3⟩
theorem w_iald {k : Nat} {x : Int} (hx : p.tables.exec = Jvm.exec) (hb : c.code = cc) (hd : decode cc pc = .ok (.iaload, 1)) (hR : jR D b σ s H) (hk : k < σ.2.1) (ht : (σ.2.2.2.1 k).1 = 50) (h0 : 0 ≤ x) (h1 : x < (σ.2.2.2.1 k).2)
    (kk : W p l e R s m args below meth c H locs cells slots Q (F0 m (pc + 1) ls (.int (Int32.ofInt (σ.2.2.2.2.1 k x)) :: rest))) : W p l e R s m args below meth c H locs cells slots Q (F0 m pc ls (.int (Int32.ofInt x) :: .ref (b + k) :: rest)) := by
  obtain ⟨ac, tys, hK, hT, hP, hX⟩ := hR
  obtain ⟨-, h2, t0, h3⟩ := arr_ty hT hk (by omega)
  rw [ht] at h3
  have h4 := oI_in h0 h1 h2
  refine va_iald hx hb hK hP k t0 (by rw [wld_at hk, wE_int (by omega) (by omega)]) h3 h4.1 hd ?_
  rw [h4.2, Int.toNat_of_nonneg h0]
  exact kk
theorem w_zald {k : Nat} {x : Int} (hx : p.tables.exec = Jvm.exec) (hb : c.code = cc) (hd : decode cc pc = .ok (.baload, 1)) (hR : jR D b σ s H) (hk : k < σ.2.1) (ht : (σ.2.2.2.1 k).1 = 51) (h0 : 0 ≤ x) (h1 : x < (σ.2.2.2.1 k).2)
    (kk : W p l e R s m args below meth c H locs cells slots Q (F0 m (pc + 1) ls (.int (Int32.ofInt (σ.2.2.2.2.1 k x)) :: rest))) : W p l e R s m args below meth c H locs cells slots Q (F0 m pc ls (.int (Int32.ofInt x) :: .ref (b + k) :: rest)) := by
  obtain ⟨ac, tys, hK, hT, hP, hX⟩ := hR
  obtain ⟨-, h2, t0, h3⟩ := arr_ty hT hk (by omega)
  rw [ht] at h3
  have h4 := oI_in h0 h1 h2
  refine va_zald hx hb hK hP k t0 (by rw [wld_at hk, wE_int (by omega) (by omega)]) h3 h4.1 hd ?_
  rw [h4.2, Int.toNat_of_nonneg h0]
  exact kk
theorem w_aald {k : Nat} {x : Int} (hx : p.tables.exec = Jvm.exec) (hb : c.code = cc) (hd : decode cc pc = .ok (.aaload, 1)) (hR : jR D b σ s H) (hk : k < σ.2.1) (ht : 52 ≤ (σ.2.2.2.1 k).1) (ht2 : (σ.2.2.2.1 k).1 ≤ 54) (h0 : 0 ≤ x) (h1 : x < (σ.2.2.2.1 k).2)
    (kk : W p l e R s m args below meth c H locs cells slots Q (F0 m (pc + 1) ls (rv b (.inr (.inr (σ.2.2.2.2.2 k x))) :: rest))) : W p l e R s m args below meth c H locs cells slots Q (F0 m pc ls (.int (Int32.ofInt x) :: .ref (b + k) :: rest)) := by
  obtain ⟨ac, tys, hK, hT, hP, hX⟩ := hR
  obtain ⟨-, h2, t0, h3⟩ := arr_ty hT hk (by omega)
  have h4 := oI_in h0 h1 h2
  have h5 : aT (σ.2.2.2.1 k).1 = .object (aC (σ.2.2.2.1 k).1) := by
    rcases (show (σ.2.2.2.1 k).1 = 52 ∨ (σ.2.2.2.1 k).1 = 53 ∨ (σ.2.2.2.1 k).1 = 54 by omega) with q | q | q <;> rw [q] <;> rfl
  rw [h5] at h3
  refine va_aldq hx hb hK hP k t0 (by rw [wld_at hk, wE_ref ht]) h3 h4.1 hd ?_
  rw [h4.2, Int.toNat_of_nonneg h0, ← rv_rf]
  exact kk
theorem updI {I : Nat → Int → Int} {k : Nat} {x z : Int} (h0 : 0 ≤ x) : upd (fun (j : Nat) => Int32.ofInt (I k j)) x.toNat (Int32.ofInt z) = fun (j : Nat) => Int32.ofInt (up I k x z k j) := by
  funext j
  unfold upd up
  by_cases h : j = x.toNat
  · rw [if_pos h, if_pos ⟨rfl, by omega⟩]
  · rw [if_neg h, if_neg (fun q => h (by omega))]
theorem w_iast {k : Nat} {x z : Int} (hx : p.tables.exec = Jvm.exec) (hb : c.code = cc) (hd : decode cc pc = .ok (.iastore, 1)) (hR : jR D b σ s H) (hS : va_S A s.heap H locs) (hA : ∀ k, k < σ.2.1 → A (b + k)) (hk : k < σ.2.1) (ht : (σ.2.2.2.1 k).1 = 50) (h0 : 0 ≤ x) (h1 : x < (σ.2.2.2.1 k).2)
    (kk : ∀ (H1 : Heap) (locs1 : List Loc), jR D b (σ.1, σ.2.1, σ.2.2.1, σ.2.2.2.1, up σ.2.2.2.2.1 k x z, σ.2.2.2.2.2) s H1 → va_S A s.heap H1 locs1 → W p l e R s m args below meth c H1 locs1 cells slots Q (F0 m (pc + 1) ls rest)) : W p l e R s m args below meth c H locs cells slots Q (F0 m pc ls (.int (Int32.ofInt z) :: .int (Int32.ofInt x) :: .ref (b + k) :: rest)) := by
  obtain ⟨ac, tys, hK, hT, hP, hX⟩ := hR
  obtain ⟨-, h2, t0, h3⟩ := arr_ty hT hk (by omega)
  rw [ht] at h3
  have h4 := oI_in h0 h1 h2
  refine va_iast hx hb hK hP (wld_D hA) hS k t0 (by rw [wld_at hk, wE_int (by omega) (by omega)]) h3 h4.1 hd (fun H1 locs1 hP1 _ hS1 => kk H1 locs1 ?_ hS1)
  refine jR_set hK hT hX hk ?_ (fun j hj => wE_I hj) hP1
  rw [wE_int (by omega) (by omega), h4.2, updI h0]
theorem w_zast {k : Nat} {x z : Int} (hx : p.tables.exec = Jvm.exec) (hb : c.code = cc) (hd : decode cc pc = .ok (.bastore, 1)) (hR : jR D b σ s H) (hS : va_S A s.heap H locs) (hA : ∀ k, k < σ.2.1 → A (b + k)) (hk : k < σ.2.1) (ht : (σ.2.2.2.1 k).1 = 51) (h0 : 0 ≤ x) (h1 : x < (σ.2.2.2.1 k).2) (hz : z = 0 ∨ z = 1)
    (kk : ∀ (H1 : Heap) (locs1 : List Loc), jR D b (σ.1, σ.2.1, σ.2.2.1, σ.2.2.2.1, up σ.2.2.2.2.1 k x z, σ.2.2.2.2.2) s H1 → va_S A s.heap H1 locs1 → W p l e R s m args below meth c H1 locs1 cells slots Q (F0 m (pc + 1) ls rest)) : W p l e R s m args below meth c H locs cells slots Q (F0 m pc ls (.int (Int32.ofInt z) :: .int (Int32.ofInt x) :: .ref (b + k) :: rest)) := by
  obtain ⟨ac, tys, hK, hT, hP, hX⟩ := hR
  obtain ⟨-, h2, t0, h3⟩ := arr_ty hT hk (by omega)
  rw [ht] at h3
  have h4 := oI_in h0 h1 h2
  refine va_zast hx hb hK hP (wld_D hA) hS k t0 (by rw [wld_at hk, wE_int (by omega) (by omega)]) h3 h4.1 hd (fun H1 locs1 hP1 _ hS1 => kk H1 locs1 ?_ hS1)
  refine jR_set hK hT hX hk ?_ (fun j hj => wE_I hj) hP1
  have h5 : vp_nar .boolean (Int32.ofInt z) = Int32.ofInt z := by rcases hz with rfl | rfl <;> decide
  rw [wE_int (by omega) (by omega), h4.2, h5, updI h0]
theorem updR {Rf : Nat → Int → Option Nat} {k q : Nat} {x : Int} (h0 : 0 ≤ x) : va_up (fun (j : Nat) => (Rf k j).map (b + ·)) x.toNat (some (b + q)) = fun (j : Nat) => (up Rf k x (some q) k j).map (b + ·) := by
  funext j
  unfold va_up up
  by_cases h : j = x.toNat
  · rw [if_pos h, if_pos ⟨rfl, by omega⟩]; rfl
  · rw [if_neg h, if_neg (fun q => h (by omega))]
theorem tIt_use {ci t : Nat} (hX : jX s) (hci : ci < 12) (h : tIt ci t = true) (ht : 52 ≤ t) (ht2 : t ≤ 54) : (cN ci = aC t) ∨ va_Nw (.castable (cN ci) (aC t)) s := by
  rcases (show t = 52 ∨ t = 53 ∨ t = 54 by omega) with rfl | rfl | rfl
  · have h : (ci == 4) = true := h
    rw [beq_iff_eq] at h
    subst h
    exact Or.inl rfl
  · have h : (ci == 5 || ci == 7 || ci == 0 || ci == 9 || ci == 2) = true := h
    simp only [Bool.or_eq_true, beq_iff_eq] at h
    right
    rcases h with (((rfl | rfl) | rfl) | rfl) | rfl
    · exact hX.2.2.1 (RX6, RX4) (by decide)
    · exact hX.2.2.1 (RX8, RX4) (by decide)
    · exact hX.2.2.1 (RX0, RX4) (by decide)
    · exact hX.2.2.1 (RX10, RX4) (by decide)
    · exact hX.2.2.1 (RX2, RX4) (by decide)
  · have h : (ci == 1) = true := h
    rw [beq_iff_eq] at h
    subst h
    exact Or.inl rfl
theorem w_aast {k q : Nat} {x : Int} (hx : p.tables.exec = Jvm.exec) (hb : c.code = cc) (hd : decode cc pc = .ok (.aastore, 1)) (hR : jR D b σ s H) (hS : va_S A s.heap H locs) (hA : ∀ k, k < σ.2.1 → A (b + k)) (hk : k < σ.2.1) (hq : q < σ.2.1) (hq2 : (σ.2.2.2.1 q).1 < 12) (ht : 52 ≤ (σ.2.2.2.1 k).1) (ht2 : (σ.2.2.2.1 k).1 ≤ 54) (hi : tIt (σ.2.2.2.1 q).1 (σ.2.2.2.1 k).1 = true) (h0 : 0 ≤ x) (h1 : x < (σ.2.2.2.1 k).2)
    (kk : ∀ (H1 : Heap) (locs1 : List Loc), jR D b (σ.1, σ.2.1, σ.2.2.1, σ.2.2.2.1, σ.2.2.2.2.1, up σ.2.2.2.2.2 k x (some q)) s H1 → va_S A s.heap H1 locs1 → W p l e R s m args below meth c H1 locs1 cells slots Q (F0 m (pc + 1) ls rest)) : W p l e R s m args below meth c H locs cells slots Q (F0 m pc ls (.ref (b + q) :: .int (Int32.ofInt x) :: .ref (b + k) :: rest)) := by
  obtain ⟨ac, tys, hK, hT, hP, hX⟩ := hR
  obtain ⟨-, h2, t0, h3⟩ := arr_ty hT hk (by omega)
  have h4 := oI_in h0 h1 h2
  have h5 : aT (σ.2.2.2.1 k).1 = .object (aC (σ.2.2.2.1 k).1) := by
    rcases (show (σ.2.2.2.1 k).1 = 52 ∨ (σ.2.2.2.1 k).1 = 53 ∨ (σ.2.2.2.1 k).1 = 54 by omega) with q | q | q <;> rw [q] <;> rfl
  rw [h5] at h3
  have hsq : σ.2.2.2.1 q = ((σ.2.2.2.1 q).1, 0) := by
    rcases hT q hq with ⟨-, z⟩ | ⟨z, -⟩
    · rw [← z]
    · omega
  have fin : ∀ (H1 : Heap), va_P D jcl ((wld b ac σ.2.1 σ.2.2.2.1 σ.2.2.2.2.1 σ.2.2.2.2.2).set k (b + k, .inl (ac k, (σ.2.2.2.1 k).2, .inr (.inr (.inr (.inr (va_up (fun (j : Nat) => (σ.2.2.2.2.2 k j).map (b + ·)) (Int32.ofInt x).toNatClampNeg (some (b + q))))))))) H1 → jR D b (σ.1, σ.2.1, σ.2.2.1, σ.2.2.2.1, σ.2.2.2.2.1, up σ.2.2.2.2.2 k x (some q)) s H1 := by
    intro H1 hP1
    refine jR_set hK hT hX hk ?_ (fun j hj => wE_R hj) hP1
    rw [wE_ref ht, h4.2, updR h0]
  rcases tIt_use hX hq2 hi ht ht2 with h6 | h6
  · exact va_astq hx hb hK hP (wld_D hA) hS k t0 q (σ.2.2.2.1 q).1 (r := (cN (σ.2.2.2.1 q).1, cT (σ.2.2.2.1 q).1, cF (σ.2.2.2.1 q).1)) (by rw [wld_at hk, wE_ref ht]) (by rw [h3]; dsimp only; rw [h6]) (by rw [wld_at hq, wE_obj hsq hq2]) (cl_at hq2) h4.1 hd (fun H1 locs1 hP1 _ hS1 => kk H1 locs1 (fin H1 hP1) hS1)
  · exact va_astqO hx hb hK hP (wld_D hA) hS k t0 q (σ.2.2.2.1 q).1 (r := (cN (σ.2.2.2.1 q).1, cT (σ.2.2.2.1 q).1, cF (σ.2.2.2.1 q).1)) (by rw [wld_at hk, wE_ref ht]) h3 h6 (by rw [wld_at hq, wE_obj hsq hq2]) (cl_at hq2) h4.1 hd (fun H1 locs1 hP1 _ hS1 => kk H1 locs1 (fin H1 hP1) hS1)
theorem w_len {k : Nat} (hx : p.tables.exec = Jvm.exec) (hb : c.code = cc) (hd : decode cc pc = .ok (.arraylength, 1)) (hR : jR D b σ s H) (hk : k < σ.2.1) (ht : 50 ≤ (σ.2.2.2.1 k).1)
    (kk : W p l e R s m args below meth c H locs cells slots Q (F0 m (pc + 1) ls (.int (Int32.ofInt ((σ.2.2.2.1 k).2 : Nat)) :: rest))) : W p l e R s m args below meth c H locs cells slots Q (F0 m pc ls (.ref (b + k) :: rest)) := by
  obtain ⟨ac, tys, hK, hT, hP, hX⟩ := hR
  obtain ⟨h1, h2, t0, h3⟩ := arr_ty hT hk ht
  by_cases h4 : (σ.2.2.2.1 k).1 < 52
  · exact va_alen hx hb hK hP k t0 (by rw [wld_at hk, wE_int ht h4]) h3 (Int32.ofInt_eq_ofNat.symm) hd kk
  · exact va_alen hx hb hK hP k t0 (by rw [wld_at hk, wE_ref (by omega)]) h3 (Int32.ofInt_eq_ofNat.symm) hd kk
theorem tO_use {n w : Nat} (hts : ∀ w ∈ jW, w.before args s = true) (h : tO o n = some w) : (Cond.classLink (oN o) n (oN w)).before args s = true := by
  obtain ⟨⟨e0, e1, e2, e3⟩, he, h1, h2⟩ := find_mem h
  have h3 := List.all_eq_true.mp tO_ok _ he
  simp only [Bool.and_eq_true, beq_iff_eq, decide_eq_true_eq] at h1 h3
  obtain ⟨rfl, rfl⟩ := h1
  cases h2
  exact hts _ (jW_mem h3 rfl)
def inC : List (Nat × Nat × Bool) := [(5, 6, true), (5, 8, false), (5, 0, false), (5, 10, false), (5, 2, false), (7, 6, true), (7, 8, true), (7, 0, false), (7, 10, false), (7, 2, false), (0, 6, true), (0, 8, false), (0, 0, true), (0, 10, false), (0, 2, false), (9, 6, false), (9, 8, false), (9, 0, false), (9, 10, true), (9, 2, false), (2, 6, false), (2, 8, false), (2, 0, false), (2, 10, true), (2, 2, true)]
theorem tIn_in {ci w : Nat} {r : Bool} (h : tIn ci w = some r) : (ci, w, r) ∈ inC := by
  unfold tIn at h
  split at h <;> first | (cases h; decide) | cases h
theorem inC_ok : inC.all (fun q => (decide (q.1 < 12) && decide (q.2.1 < 13)) && if q.2.2 then decide (cN q.1 = oN q.2.1) || decide ((cN q.1, oN q.2.1) ∈ yesC) else decide ((cN q.1, oN q.2.1) ∈ noC)) = true := by decide +kernel
theorem w_inst {n k w : Nat} {r : Bool} (hx : p.tables.exec = Jvm.exec) (hb : c.code = cc) (hts : ∀ w ∈ jW, w.before args s = true) (hown : s.vm.findClass (oN o) = some m.cls) (hd : decode cc pc = .ok (.instanceof n, 3)) (hR : jR D b σ s H) (ht : tO o n = some w) (hk : k < σ.2.1) (hs : (σ.2.2.2.1 k).1 < 12) (hr : tIn (σ.2.2.2.1 k).1 w = some r)
    (kk : W p l e R s m args below meth c H locs cells slots Q (F0 m (pc + 3) ls (.int (Int32.ofInt (if r then 1 else 0)) :: rest))) : W p l e R s m args below meth c H locs cells slots Q (F0 m pc ls (.ref (b + k) :: rest)) := by
  obtain ⟨ac, tys, hK, hT, hP, hX⟩ := hR
  have hsk : σ.2.2.2.1 k = ((σ.2.2.2.1 k).1, 0) := by
    rcases hT k hk with ⟨-, z⟩ | ⟨z, -⟩
    · rw [← z]
    · omega
  have hrec := va_recv hK hP (ci := (σ.2.2.2.1 k).1) (q0 := k) (cl_at hs) (by rw [wld_at hk, wE_obj hsk hs])
  have h1 := List.all_eq_true.mp inC_ok _ (tIn_in hr)
  have hlink := tO_use hts ht
  cases r
  · simp only [Bool.and_eq_true, decide_eq_true_eq] at h1
    have h2 : (cN (σ.2.2.2.1 k).1, oN w) ∈ noC := by simpa using h1.2
    have h3 : va_Nc (cN (σ.2.2.2.1 k).1) (oN w) s := hX.2.2.2.2 _ h2
    exact va_instNo hx hb hown hlink h3 hrec hd kk
  · simp only [Bool.and_eq_true, decide_eq_true_eq, if_true, Bool.or_eq_true] at h1
    rcases h1.2 with h2 | h2
    · have h3 : ClassAt s (cN (σ.2.2.2.1 k).1) _ := (hK.1 _ _ (cl_at hs)).2
      rw [h2] at h3
      exact va_instS hx hb hown hlink h3 (by rw [← h2]; exact hrec) hd kk
    · have h3 : va_Nw (.castable (cN (σ.2.2.2.1 k).1) (oN w)) s := hX.2.2.1 _ h2
      exact va_instY hx hb hown hlink h3 hrec hd kk
end W2b
end
section
section W2c
variable {p : Program} {l : Launch} {e : Env} {R : Room} {s : State} {m : MethodId} {args : Array Value} {below : List Frame} {meth : Method} {c : Code} {H : Heap} {locs : List Loc} {cells slots : Nat} {Q : State → Prop} {cc : ByteArray} {b nL pc o : Nat} {ls : Array Slot} {rest : List Value} {D : va_G} {σ : jS} {A : Nat → Prop}
theorem w_sz {g : JFrame} (kk : s.heap.size ≤ H.size → H.size ≤ s.heap.size + cells → W p l e R s m args below meth c H locs cells slots Q g) : W p l e R s m args below meth c H locs cells slots Q g := by
  intro T hT X
  have h1 : s.heap.size ≤ T.heap.size := X.same.2.1
  have h2 : T.heap.size ≤ s.heap.size + cells := X.same.2.2.1
  rw [hT] at h1 h2
  exact kk h1 h2 T hT X
theorem jR_lt (hR : jR D b σ s H) {k : Nat} (hk : k < σ.2.1) : b + k < H.size := by
  obtain ⟨ac, tys, hK, hT, hP, hX⟩ := hR
  exact (hP k _ (wld_at hk)).lt
theorem jR_new {n sl t len : Nat} {bo : Bool} {sh : Nat → Nat × Nat} {I : Nat → Int → Int} {Rf : Nat → Int → Option Nat} {ac : Nat → ClassId} {tys tys' : List (ClassId × FieldType)} {cA : ClassId} {H1 : Heap} (hK : va_K D jcl tys' s)
    (hT : ∀ k, k < n → ((sh k).1 < 12 ∧ (sh k).2 = 0) ∨ (50 ≤ (sh k).1 ∧ (sh k).1 ≤ 54 ∧ (sh k).2 < 100001 ∧ ∃ t0 : Nat, tys[t0]? = some (ac k, aT (sh k).1))) (hsub : ∀ (t0 : Nat) (q : ClassId × FieldType), tys[t0]? = some q → tys'[t0]? = some q)
    (hP : va_P D jcl (wld b ac n sh I Rf) H) (hX : jX s) (ho : ∀ q, q < b + n → H1[q]? = H[q]?)
    (hnew : (t < 12 ∧ len = 0) ∨ (50 ≤ t ∧ t ≤ 54 ∧ len < 100001 ∧ ∃ t0 : Nat, tys'[t0]? = some (cA, aT t)))
    (hat : va_at D jcl (b + n, wE b (fun _ => cA) (fun _ => (t, len)) (fun _ _ => 0) (fun _ _ => none) n) H1) :
    jR D b (bo, n + 1, sl, (fun a => if a = n then (t, len) else sh a), (fun a b => if a = n then 0 else I a b), (fun a b => if a = n then none else Rf a b)) s H1 := by
  refine ⟨fun a => if a = n then cA else ac a, tys', hK, fun k hk => ?_, fun k q hq => ?_, hX⟩
  · dsimp only at hk ⊢
    by_cases hkn : k = n
    · rw [if_pos hkn, if_pos hkn]; exact hnew
    · rw [if_neg hkn, if_neg hkn]
      rcases hT k (by omega) with h | ⟨h1, h2, h3, t0, h4⟩
      · exact Or.inl h
      · exact Or.inr ⟨h1, h2, h3, t0, hsub _ _ h4⟩
  · obtain ⟨hk, rfl⟩ := wld_in hq
    dsimp only at hk
    by_cases hkn : k = n
    · subst hkn
      have e1 : wE b (fun a => if a = k then cA else ac a) (fun a => if a = k then (t, len) else sh a) (fun a b => if a = k then 0 else I a b) (fun a b => if a = k then none else Rf a b) k = wE b (fun _ => cA) (fun _ => (t, len)) (fun _ _ => 0) (fun _ _ => none) k := by
        unfold wE
        simp only [if_true]
      rw [e1]
      exact hat
    · have e1 : wE b (fun a => if a = n then cA else ac a) (fun a => if a = n then (t, len) else sh a) (fun a b => if a = n then 0 else I a b) (fun a b => if a = n then none else Rf a b) k = wE b ac sh I Rf k := by
        unfold wE
        simp only [if_neg hkn]
      rw [e1]
      exact (hP k _ (wld_at (by omega))).kept (ho _ (by show b + k < b + n; omega))
theorem tN_use {n ci : Nat} (hts : ∀ w ∈ jW, w.before args s = true) (h : tN o n = some ci) : ci < 12 ∧ (Cond.classLink (oN o) n (cN ci)).before args s = true ∧ (Cond.instantiable (cN ci) (cF ci)).before args s = true ∧ (Cond.initialized (cN ci)).before args s = true := by
  obtain ⟨⟨e0, e1, e2, e3, e4, e5⟩, he, h1, h2⟩ := find_mem h
  have h3 := List.all_eq_true.mp tN_ok _ he
  simp only [Bool.and_eq_true, beq_iff_eq, decide_eq_true_eq] at h1 h3
  obtain ⟨rfl, rfl⟩ := h1
  cases h2
  exact ⟨h3.2, hts _ (jW_mem h3.1.1.1 rfl), hts _ (jW_mem h3.1.1.2 rfl), hts _ (jW_mem h3.1.2 rfl)⟩
theorem va_S_new {H0 H1 : Heap} {h : Nat} (hS : va_S A H0 H locs) (hh : H.size = h) (z1 : H1.size = h + 1) (o1 : ∀ q, q < h → H1[q]? = H[q]?) : va_S A H0 H1 locs :=
  ⟨Nat.le_trans hS.1 (by omega), fun x h1 h2 => (o1 x (by have := hS.1; omega)).trans (hS.2.1 x h1 h2), hS.2.2⟩
theorem w_new {n ci : Nat} (hx : p.tables.exec = Jvm.exec) (hb : c.code = cc) (hts : ∀ w ∈ jW, w.before args s = true) (hown : s.vm.findClass (oN o) = some m.cls) (hd : decode cc pc = .ok (.new n, 3)) (hR : jR D b σ s H) (hS : va_S A s.heap H locs) (ht : tN o n = some ci) (hn : 0 < σ.2.1) (hN : s.heap.size + cells = b + σ.2.1) (hcells : cells + 1 ≤ R.cells) (hslots : slots + cF ci ≤ R.slots)
    (kk : ∀ H1 : Heap, jR D b (true, σ.2.1 + 1, σ.2.2.1 + cF ci, (fun a => if a = σ.2.1 then (ci, 0) else σ.2.2.2.1 a), (fun a b => if a = σ.2.1 then 0 else σ.2.2.2.2.1 a b), (fun a b => if a = σ.2.1 then none else σ.2.2.2.2.2 a b)) s H1 → va_S A s.heap H1 locs → W p l e R s m args below meth c H1 locs (cells + 1) (slots + cF ci) Q (F0 m (pc + 3) ls (.ref (b + σ.2.1) :: rest))) : W p l e R s m args below meth c H locs cells slots Q (F0 m pc ls rest) := by
  refine w_sz (fun z1 z2 => ?_)
  have hz : H.size = b + σ.2.1 := by
    have := jR_lt hR (k := σ.2.1 - 1) (by omega)
    omega
  obtain ⟨ac, tys, hK, hT, hP, hX⟩ := hR
  obtain ⟨h1, h2, h3, h4⟩ := tN_use hts ht
  have hKn := hK.1 ci _ (cl_at h1)
  refine W.newcK hx hb hown h2 h3 h4 rfl hd hcells hslots hKn.2.1 hz (fun H1 kC hkC e1 z1 o1 => ?_)
  refine kk H1 (jR_new (cA := 0) hK hT (fun _ _ h => h) hP hX o1 (Or.inl ⟨h1, rfl⟩) ?_) (va_S_new hS hz z1 o1)
  rw [wE_obj (sh := fun _ => (ci, 0)) (k := σ.2.1) rfl h1]
  refine ⟨_, cl_at h1, (u_born (cY ci) hts (cl_use h1) hKn hkC e1 (fun k hk => (cl_typ h1 hk).1)).to (fun j hj => ?_)⟩
  have hj : j < cF ci := hj
  have h5 : (fld b ci (fun _ => 0) (fun _ => none))[j]? = _ := fld_at hj
  unfold vp_V
  rw [List.getD_eq_getElem?_getD, h5, Option.getD_some]
  rcases (cl_typ h1 hj).2 with ⟨q1, ⟨nn, q2⟩ | ⟨nn, q2⟩⟩ | ⟨q1, q2⟩ <;> rw [q1, q2] <;> rfl
theorem va_K_add {tys : List (ClassId × FieldType)} {cA : ClassId} {ty : FieldType} (hK : va_K D jcl tys s) (h1 : ArrOfT s cA ty) (h2 : va_RA s cA ty) : va_K D jcl (tys ++ [(cA, ty)]) s := by
  refine hK.app ⟨hK.1, fun k q hk => ?_⟩
  have hz : k < 1 := (List.getElem?_eq_some_iff.mp hk).1
  rw [show k = 0 by omega] at hk
  cases hk
  exact ⟨h1, h2⟩
theorem app_l {α : Type} {l l' : List α} (t0 : Nat) (q : α) (h : l[t0]? = some q) : (l ++ l')[t0]? = some q := by
  rw [List.getElem?_append_left (List.getElem?_eq_some_iff.mp h).1]; exact h
theorem app_r {α : Type} {l : List α} {q : α} : ∃ t0 : Nat, (l ++ [q])[t0]? = some q := ⟨l.length, by simp⟩
theorem oI_pos {x : Int} (h0 : 0 ≤ x) (h1 : x < 100000) : ¬ Int32.ofInt x < 0 ∧ (Int32.ofInt x).toNatClampNeg = x.toNat := by
  rw [oI_nat h0]
  exact ⟨nI_pos (by omega), nI_clamp (by omega)⟩
theorem w_newa {x : Int} {t : ArrayType} (hx : p.tables.exec = Jvm.exec) (hb : c.code = cc) (hts : ∀ w ∈ jW, w.before args s = true) (hd : decode cc pc = .ok (.newarray t, 2)) (hR : jR D b σ s H) (hS : va_S A s.heap H locs) (ht : t = .int ∨ t = .boolean) (h0 : 0 ≤ x) (h1 : x < 100000) (hn : 0 < σ.2.1) (hN : s.heap.size + cells = b + σ.2.1) (hcells : cells + 1 ≤ R.cells) (hslots : slots + x.toNat ≤ R.slots)
    (kk : ∀ H1 : Heap, jR D b (true, σ.2.1 + 1, σ.2.2.1 + x.toNat, (fun a => if a = σ.2.1 then (if t == .int then 50 else 51, x.toNat) else σ.2.2.2.1 a), (fun a b => if a = σ.2.1 then 0 else σ.2.2.2.2.1 a b), (fun a b => if a = σ.2.1 then none else σ.2.2.2.2.2 a b)) s H1 → va_S A s.heap H1 locs → W p l e R s m args below meth c H1 locs (cells + 1) (slots + x.toNat) Q (F0 m (pc + 2) ls (.ref (b + σ.2.1) :: rest))) : W p l e R s m args below meth c H locs cells slots Q (F0 m pc ls (.int (Int32.ofInt x) :: rest)) := by
  refine w_sz (fun z1 z2 => ?_)
  have hz : H.size = b + σ.2.1 := by
    have := jR_lt hR (k := σ.2.1 - 1) (by omega)
    omega
  obtain ⟨ac, tys, hK, hT, hP, hX⟩ := hR
  have hp := oI_pos h0 h1
  rcases ht with rfl | rfl
  · refine va_newaK hx hb (atype := .int) (hts (.arrayClass .int) (jW_mem (i := 108) (by decide +kernel) rfl)) (g := F0 m pc ls (.int (Int32.ofInt x) :: rest)) rfl hd rfl hp.1 hp.2 (by show x.toNat * 4 ≤ _; omega) hcells hslots hz (fun H1 cA e1 z1 o1 hAr hNm => ?_)
    refine kk H1 (jR_new (tys' := tys ++ [(cA, .int)]) (cA := cA) (va_K_add (ty := .int) hK hAr hNm) hT (fun _ _ h => app_l _ _ h) hP hX o1 (Or.inr ⟨by show 50 ≤ 50; decide, by show 50 ≤ 54; decide, by show x.toNat < _; omega, app_r⟩) ?_) (va_S_new hS hz z1 o1)
    rw [wE_int (by show 50 ≤ 50; decide) (by show 50 < 52; decide)]
    exact e1
  · refine va_newaK hx hb (atype := .boolean) (hts (.arrayClass .boolean) (jW_mem (i := 1059) (by decide +kernel) rfl)) (g := F0 m pc ls (.int (Int32.ofInt x) :: rest)) rfl hd rfl hp.1 hp.2 (by show x.toNat * 1 ≤ _; omega) hcells hslots hz (fun H1 cA e1 z1 o1 hAr hNm => ?_)
    refine kk H1 (jR_new (tys' := tys ++ [(cA, .boolean)]) (cA := cA) (va_K_add (ty := .boolean) hK hAr hNm) hT (fun _ _ h => app_l _ _ h) hP hX o1 (Or.inr ⟨by show 50 ≤ 51; decide, by show 51 ≤ 54; decide, by show x.toNat < _; omega, app_r⟩) ?_) (va_S_new hS hz z1 o1)
    rw [wE_int (by show 50 ≤ 51; decide) (by show 51 < 52; decide)]
    exact e1
theorem tA_use {n t : Nat} (hts : ∀ w ∈ jW, w.before args s = true) (h : tA o n = some t) : 52 ≤ t ∧ t ≤ 54 ∧ (Cond.classLink (oN o) n (aC t)).before args s = true := by
  obtain ⟨⟨e0, e1, e2, e3, e4⟩, he, h1, h2⟩ := find_mem h
  have h3 := List.all_eq_true.mp tA_ok _ he
  simp only [Bool.and_eq_true, beq_iff_eq, decide_eq_true_eq] at h1 h3
  obtain ⟨rfl, rfl⟩ := h1
  cases h2
  exact ⟨h3.1.2, h3.2, hts _ (jW_mem h3.1.1.1 rfl)⟩
theorem w_anew {x : Int} {n t : Nat} (hx : p.tables.exec = Jvm.exec) (hb : c.code = cc) (hts : ∀ w ∈ jW, w.before args s = true) (hown : s.vm.findClass (oN o) = some m.cls) (hd : decode cc pc = .ok (.anewarray n, 3)) (hR : jR D b σ s H) (hS : va_S A s.heap H locs) (ht : tA o n = some t) (h0 : 0 ≤ x) (h1 : x < 100000) (hn : 0 < σ.2.1) (hN : s.heap.size + cells = b + σ.2.1) (hcells : cells + 1 ≤ R.cells) (hslots : slots + x.toNat ≤ R.slots)
    (kk : ∀ H1 : Heap, jR D b (true, σ.2.1 + 1, σ.2.2.1 + x.toNat, (fun a => if a = σ.2.1 then (t, x.toNat) else σ.2.2.2.1 a), (fun a b => if a = σ.2.1 then 0 else σ.2.2.2.2.1 a b), (fun a b => if a = σ.2.1 then none else σ.2.2.2.2.2 a b)) s H1 → va_S A s.heap H1 locs → W p l e R s m args below meth c H1 locs (cells + 1) (slots + x.toNat) Q (F0 m (pc + 3) ls (.ref (b + σ.2.1) :: rest))) : W p l e R s m args below meth c H locs cells slots Q (F0 m pc ls (.int (Int32.ofInt x) :: rest)) := by
  refine w_sz (fun z1 z2 => ?_)
  have hz : H.size = b + σ.2.1 := by
    have := jR_lt hR (k := σ.2.1 - 1) (by omega)
    omega
  obtain ⟨ac, tys, hK, hT, hP, hX⟩ := hR
  obtain ⟨h2, h3, h4⟩ := tA_use hts ht
  have hp := oI_pos h0 h1
  have h5 : va_AO (aC t) s ∧ aT t = .object (aC t) := by
    rcases (show t = 52 ∨ t = 53 ∨ t = 54 by omega) with rfl | rfl | rfl
    · exact ⟨hX.2.2.2.1 RX5 (by decide), rfl⟩
    · exact ⟨hX.2.2.2.1 RX4 (by decide), rfl⟩
    · exact ⟨hX.2.2.2.1 RX1 (by decide), rfl⟩
  refine W.anew hx hb hown h4 (va_AO.use h5.1) rfl hd rfl hp.1 (by rw [hp.2]; omega) hcells (by rw [hp.2]; exact hslots) (fun cA kA comp f1 f2 f3 f4 => ?_)
  rw [hp.2, arrV_new, hz]
  generalize hH1 : H.push (arrV cA x.toNat (fun _ => .null)) = H1
  have z3 : H1.size = b + σ.2.1 + 1 := by rw [← hH1, Array.size_push, hz]
  have o1 : ∀ q, q < b + σ.2.1 → H1[q]? = H[q]? := fun q hq => by
    rw [← hH1, Array.getElem?_push, if_neg (by omega)]
  have e1 : H1[b + σ.2.1]? = some (arrV cA x.toNat (fun _ => .null)) := by rw [← hH1, ← hz, Array.getElem?_push_size]
  refine kk H1 (jR_new (tys' := tys ++ [(cA, aT t)]) (cA := cA) (va_K_add hK ?_ ?_) hT (fun _ _ h => app_l _ _ h) hP hX o1 (Or.inr ⟨by omega, h3, by omega, app_r⟩) ?_) (va_S_new hS hz z3 o1)
  · rw [h5.2]
    exact fun N z => ⟨(fun k h => by cases h), kA, f2, comp, f3⟩
  · rw [h5.2]
    exact ⟨kA, comp, f2, f3, f4, f1⟩
  · rw [wE_ref h2]
    exact e1
end W2c
end
section
section W2d
variable {p : Program} {l : Launch} {e : Env} {R : Room} {s : State} {m : MethodId} {args : Array Value} {below : List Frame} {meth : Method} {c : Code} {H : Heap} {locs : List Loc} {cells slots : Nat} {Q : State → Prop} {cc : ByteArray} {b nL pc o : Nat} {ls : Array Slot} {rest : List Value} {D : va_G} {σ : jS} {A : Nat → Prop}
theorem sz_rv (b : Nat) (S : List jV) : ((S.map (rv b)).map fun v => v.category).sum = szS S := by
  unfold szS
  rw [List.map_map]
  congr 1
  apply List.map_congr_left
  intro v _
  exact rv_cat b v
/-- a call whose contract is any: what is behind it -/
theorem w_call {Qa : State → Outcome → State → Prop} {free : Addr → Prop} {mc ms : Nat} {st0 : List Value} (hr : va_Run p l e R s m args below meth c H locs cells slots mc ms (F0 m pc ls st0) rest Qa free)
    (kk : ∀ (v : Option Value) (st₀ t : State) (H1 : Heap) (L : List Loc), st₀.heap = H → t.heap = H1 → s.WarmedH t.vm → Qa st₀ (.returned v) t → (∀ q ∈ L, free q.base) → W p l e R s m args below meth c H1 (locs ++ L) (cells + mc) (slots + ms) Q (F0 m (pc + 3) ls (v.toList ++ rest))) : W p l e R s m args below meth c H locs cells slots Q (F0 m pc ls st0) := by
  intro T hT X
  obtain ⟨v, st₀, t, T', L, h0, X', hL, e1, e2, hq, st⟩ := hr T hT X
  obtain ⟨t2, a1, b1⟩ := kk v st₀ t T'.heap L h0 e1.symm (by rw [← e2]; exact X'.warmed) hq hL T' rfl X'
  exact ⟨t2, st t2 a1, b1⟩
theorem tB_use {n : Nat} (hts : ∀ w ∈ jW, w.before args s = true) (h : tB o n = true) : (Cond.methodLink (oN o) n objectInit).before args s = true := by
  obtain ⟨⟨e0, e1, e2⟩, he, h1⟩ := List.any_eq_true.mp h
  have h3 := List.all_eq_true.mp tB_ok _ he
  simp only [Bool.and_eq_true, beq_iff_eq, decide_eq_true_eq] at h1 h3
  obtain ⟨rfl, rfl⟩ := h1
  exact hts _ (jW_mem h3 rfl)
def natY (w : Nat) : MethodName := match w with | 0 => arraycopyName | 1 => ⟨RJ6, "bitCount", "(I)I"⟩ | 2 => Lib.Math.abs.name | 3 => Lib.Math.max.name | _ => Lib.Math.min.name
theorem tM_use {n w : Nat} (hts : ∀ w ∈ jW, w.before args s = true) (h : tM o n = some w) : (Cond.methodLink (oN o) n (natY w)).before args s = true := by
  obtain ⟨⟨e0, e1, e2, e3⟩, he, h1, h2⟩ := find_mem h
  have h3 := List.all_eq_true.mp tM_ok _ he
  simp only [Bool.and_eq_true, beq_iff_eq, decide_eq_true_eq] at h1 h3
  obtain ⟨rfl, rfl⟩ := h1
  have h2 : e2 = w := h2
  subst h2
  have h4 : lw_tbl[e3]? = some (.methodLink (oN e0) e1 (natY e2)) := h3
  exact hts _ (jW_mem h4 rfl)
theorem w_obj {n : Nat} {a : Addr} (hx : p.tables.exec = Jvm.exec) (hb : c.code = cc) (hml : c.maxLocals = ls.size) (hts : ∀ w ∈ jW, w.before args s = true) (hown : s.vm.findClass (oN o) = some m.cls) (hd : decode cc pc = .ok (.invokespecial n, 3)) (ht : tB o n = true) (hf : 1 ≤ R.frames) (hlo : (rest.map fun v => v.category).sum + 12 ≤ R.locals)
    (kk : W p l e R s m args below meth c H locs cells slots Q (F0 m (pc + 3) ls rest)) : W p l e R s m args below meth c H locs cells slots Q (F0 m pc ls (.ref a :: rest)) := by
  refine W.objInit hx hb hown (tB_use hts ht) (hts (.instanceMethod objectInit) (jW_mem (i := 83) (by decide +kernel) rfl)) (hts (.code objectInit ⟨#[0xb1]⟩ 1 none) (jW_mem (i := 84) (by decide +kernel) rfl)) rfl hml.symm rfl hd hf ?_ kk
  show 2 * 0 + _ + 12 ≤ _
  omega
theorem w_max {n : Nat} {x y : Int} (hx : p.tables.exec = Jvm.exec) (hb : c.code = cc) (hml : c.maxLocals = ls.size) (hts : ∀ w ∈ jW, w.before args s = true) (hown : s.vm.findClass (oN o) = some m.cls) (hd : decode cc pc = .ok (.invokestatic n, 3)) (ht : tM o n = some 3) (hf : 1 ≤ R.frames) (hlo : (rest.map fun v => v.category).sum + 13 ≤ R.locals) (hc : cells ≤ R.cells) (hs : slots ≤ R.slots) (h1 : inB x = true) (h2 : inB y = true)
    (kk : W p l e R s m args below meth c H locs cells slots Q (F0 m (pc + 3) ls (.int (Int32.ofInt (if x < y then y else x)) :: rest))) : W p l e R s m args below meth c H locs cells slots Q (F0 m pc ls (.int (Int32.ofInt y) :: .int (Int32.ofInt x) :: rest)) := by
  refine va_mmax hx hb hml hown (tM_use hts ht) (hts (.static Lib.Math.max.name) (jW_mem (i := 93) (by decide +kernel) rfl)) (hts (.initialized "java/lang/Math") (jW_mem (i := 63) (by decide +kernel) rfl)) (hts (.code Lib.Math.max.name Lib.Math.max.code 2 (some .int)) (jW_mem (i := 94) (by decide +kernel) rfl)) hf hlo hc hs hd ?_
  by_cases h : x < y
  · rw [if_pos ((oI_lt h1 h2).mpr h)]; rw [if_pos h] at kk; exact kk
  · rw [if_neg (fun q => h ((oI_lt h1 h2).mp q))]; rw [if_neg h] at kk; exact kk
theorem w_min {n : Nat} {x y : Int} (hx : p.tables.exec = Jvm.exec) (hb : c.code = cc) (hml : c.maxLocals = ls.size) (hts : ∀ w ∈ jW, w.before args s = true) (hown : s.vm.findClass (oN o) = some m.cls) (hd : decode cc pc = .ok (.invokestatic n, 3)) (ht : tM o n = some 4) (hf : 1 ≤ R.frames) (hlo : (rest.map fun v => v.category).sum + 13 ≤ R.locals) (hc : cells ≤ R.cells) (hs : slots ≤ R.slots) (h1 : inB x = true) (h2 : inB y = true)
    (kk : W p l e R s m args below meth c H locs cells slots Q (F0 m (pc + 3) ls (.int (Int32.ofInt (if x < y then x else y)) :: rest))) : W p l e R s m args below meth c H locs cells slots Q (F0 m pc ls (.int (Int32.ofInt y) :: .int (Int32.ofInt x) :: rest)) := by
  refine va_mmin hx hb hml hown (tM_use hts ht) (hts (.static Lib.Math.min.name) (jW_mem (i := 612) (by decide +kernel) rfl)) (hts (.initialized "java/lang/Math") (jW_mem (i := 63) (by decide +kernel) rfl)) (hts (.code Lib.Math.min.name Lib.Math.min.code 2 (some .int)) (jW_mem (i := 613) (by decide +kernel) rfl)) hf hlo hc hs hd ?_
  by_cases h : y < x
  · rw [if_pos ((oI_lt h2 h1).mpr h)]; rw [if_neg (by omega)] at kk; exact kk
  · rw [if_neg (fun q => h ((oI_lt h2 h1).mp q))]
    by_cases h3 : x < y
    · rw [if_pos h3] at kk; exact kk
    · rw [if_neg h3, show y = x by omega] at kk; exact kk
theorem w_abs {n : Nat} {x : Int} (hx : p.tables.exec = Jvm.exec) (hb : c.code = cc) (hml : c.maxLocals = ls.size) (hts : ∀ w ∈ jW, w.before args s = true) (hown : s.vm.findClass (oN o) = some m.cls) (hd : decode cc pc = .ok (.invokestatic n, 3)) (ht : tM o n = some 2) (hf : 1 ≤ R.frames) (hlo : (rest.map fun v => v.category).sum + 13 ≤ R.locals) (hc : cells ≤ R.cells) (hs : slots ≤ R.slots) (h1 : inB x = true)
    (kk : W p l e R s m args below meth c H locs cells slots Q (F0 m (pc + 3) ls (.int (Int32.ofInt (if 0 ≤ x then x else -x)) :: rest))) : W p l e R s m args below meth c H locs cells slots Q (F0 m pc ls (.int (Int32.ofInt x) :: rest)) := by
  refine va_mabs hx hb hml hown (tM_use hts ht) (hts (.static Lib.Math.abs.name) (jW_mem (i := 664) (by decide +kernel) rfl)) (hts (.initialized "java/lang/Math") (jW_mem (i := 63) (by decide +kernel) rfl)) (hts (.code Lib.Math.abs.name Lib.Math.abs.code 1 (some .int)) (jW_mem (i := 665) (by decide +kernel) rfl)) hf hlo hc hs hd ?_
  have h0 : (0 : Int32) ≤ Int32.ofInt x ↔ 0 ≤ x := oI_le (x := 0) (by decide) h1
  by_cases h : 0 ≤ x
  · rw [if_pos (h0.mpr h)]; rw [if_pos h] at kk; exact kk
  · rw [if_neg (fun q => h (h0.mp q))]; rw [if_neg h] at kk
    have e1 : (0 : Int32) - Int32.ofInt x = Int32.ofInt (-x) := by
      rw [show (0 : Int32) = Int32.ofInt 0 from rfl, ← Int32.ofInt_sub]
      congr 1
      omega
    rw [e1]; exact kk
theorem cpyI {I : Nat → Int → Int} {k0 k1 : Nat} {sp dp n : Int} (h0 : 0 ≤ sp) (h1 : 0 ≤ dp) (h2 : 0 ≤ n) : va_cpy (fun (j : Nat) => Int32.ofInt (I k0 j)) (fun (j : Nat) => Int32.ofInt (I k1 j)) sp.toNat dp.toNat n.toNat = fun (j : Nat) => Int32.ofInt (cpI I k0 k1 sp dp n k1 j) := by
  funext j
  unfold va_cpy cpI
  by_cases h : dp.toNat ≤ j ∧ j < dp.toNat + n.toNat
  · rw [if_pos h, if_pos ⟨rfl, by omega, by omega⟩]
    have : ((sp.toNat + (j - dp.toNat) : Nat) : Int) = sp + ((j : Int) - dp) := by omega
    rw [← this]
  · rw [if_neg h, if_neg (fun q => h (by omega))]
theorem w_copy {n k0 k1 : Nat} {x sp dp : Int} (hx : p.tables.exec = Jvm.exec) (hb : c.code = cc) (hml : c.maxLocals = ls.size) (hts : ∀ w ∈ jW, w.before args s = true) (hown : s.vm.findClass (oN o) = some m.cls) (hd : decode cc pc = .ok (.invokestatic n, 3)) (ht : tM o n = some 0) (hf : 1 ≤ R.frames) (hlo : (rest.map fun v => v.category).sum + 18 ≤ R.locals) (hR : jR D b σ s H) (hS : va_S A s.heap H locs) (hA : ∀ k, k < σ.2.1 → A (b + k))
    (g0 : k0 < σ.2.1) (g1 : k1 < σ.2.1) (t0 : (σ.2.2.2.1 k0).1 = 50) (t1 : (σ.2.2.2.1 k1).1 = 50) (h0 : 0 ≤ sp) (h1 : 0 ≤ dp) (h2 : 0 ≤ x) (h3 : sp + x ≤ (σ.2.2.2.1 k0).2) (h4 : dp + x ≤ (σ.2.2.2.1 k1).2)
    (kk : ∀ (H1 : Heap) (locs1 : List Loc), jR D b (σ.1, σ.2.1, σ.2.2.1, σ.2.2.2.1, cpI σ.2.2.2.2.1 k0 k1 sp dp x, σ.2.2.2.2.2) s H1 → va_S A s.heap H1 locs1 → W p l e R s m args below meth c H1 locs1 cells slots Q (F0 m (pc + 3) ls rest)) : W p l e R s m args below meth c H locs cells slots Q (F0 m pc ls (.int (Int32.ofInt x) :: .int (Int32.ofInt dp) :: .ref (b + k1) :: .int (Int32.ofInt sp) :: .ref (b + k0) :: rest)) := by
  obtain ⟨ac, tys, hK, hT, hP, hX⟩ := hR
  obtain ⟨-, l0, u0, e0⟩ := arr_ty hT g0 (by omega)
  obtain ⟨-, l1, u1, e1⟩ := arr_ty hT g1 (by omega)
  rw [t0] at e0
  rw [t1] at e1
  have n1 : ∀ z : Int, 0 ≤ z → z < 100001 → ¬ Int32.ofInt z < 0 ∧ (Int32.ofInt z).toNatClampNeg = z.toNat := fun z hz hz2 => by
    rw [oI_nat hz]
    exact ⟨nI_pos (by omega), nI_clamp (by omega)⟩
  have a0 := n1 sp h0 (by omega)
  have a1 := n1 dp h1 (by omega)
  have a2 := n1 x h2 (by omega)
  refine va_copyi hx hb hml hown (tM_use hts ht) (hts (.native arraycopyName) (jW_mem (i := 405) (by decide +kernel) rfl)) (hts (.static arraycopyName) (jW_mem (i := 404) (by decide +kernel) rfl)) (hts (.initialized "java/lang/System") (jW_mem (i := 75) (by decide +kernel) rfl)) hK hP (wld_D hA) hS k0 k1 u0 u1 (by rw [wld_at g0, wE_int (by omega) (by omega)]) (by rw [wld_at g1, wE_int (by omega) (by omega)]) e0 e1 rfl a0.1 a1.1 a2.1 (by rw [a0.2, a2.2]; omega) (by rw [a1.2, a2.2]; omega) (fun _ _ => rfl) hf (by rw [show nativeFrameWords "java/lang/System" "arraycopy" 5 = 7 from by decide]; exact hlo) hd (fun H1 locs1 hP1 _ hS1 => kk H1 locs1 ?_ hS1)
  refine jR_set hK hT hX g1 ?_ (fun j hj => ?_) hP1
  · rw [wE_int (by omega) (by omega), a0.2, a1.2, a2.2, cpyI h0 h1 h2]
  · unfold wE
    have : cpI σ.2.2.2.2.1 k0 k1 sp dp x j = σ.2.2.2.2.1 j := by
      funext y
      unfold cpI
      rw [if_neg (fun q => hj q.1)]
    rw [this]
end W2d
end
section
/-! Integer.bitCount, at 0 to 31 -/
def yBC : MethodName := ⟨RJ6, "bitCount", "(I)I"⟩
abbrev cBC : ByteArray := prog_15_method_49_code
def wBC : List Cond := .code yBC cBC 1 (some .int) :: [.constant RJ6 265 1431655765, .constant RJ6 266 858993459, .constant RJ6 267 252645135]
theorem dBC_0 : decode cBC 0 = .ok (.iload_n 0, 1) := by decide +kernel
theorem dBC_1 : decode cBC 1 = .ok (.iload_n 0, 1) := by decide +kernel
theorem dBC_2 : decode cBC 2 = .ok (.iconst 1, 1) := by decide +kernel
theorem dBC_3 : decode cBC 3 = .ok (.iushr, 1) := by decide +kernel
theorem dBC_4 : decode cBC 4 = .ok (.ldc_w 265, 3) := by decide +kernel
theorem dBC_7 : decode cBC 7 = .ok (.iand, 1) := by decide +kernel
theorem dBC_8 : decode cBC 8 = .ok (.isub, 1) := by decide +kernel
theorem dBC_9 : decode cBC 9 = .ok (.istore_n 0, 1) := by decide +kernel
theorem dBC_10 : decode cBC 10 = .ok (.iload_n 0, 1) := by decide +kernel
theorem dBC_11 : decode cBC 11 = .ok (.ldc_w 266, 3) := by decide +kernel
theorem dBC_14 : decode cBC 14 = .ok (.iand, 1) := by decide +kernel
theorem dBC_15 : decode cBC 15 = .ok (.iload_n 0, 1) := by decide +kernel
theorem dBC_16 : decode cBC 16 = .ok (.iconst 2, 1) := by decide +kernel
theorem dBC_17 : decode cBC 17 = .ok (.iushr, 1) := by decide +kernel
theorem dBC_18 : decode cBC 18 = .ok (.ldc_w 266, 3) := by decide +kernel
theorem dBC_21 : decode cBC 21 = .ok (.iand, 1) := by decide +kernel
theorem dBC_22 : decode cBC 22 = .ok (.iadd, 1) := by decide +kernel
theorem dBC_23 : decode cBC 23 = .ok (.istore_n 0, 1) := by decide +kernel
theorem dBC_24 : decode cBC 24 = .ok (.iload_n 0, 1) := by decide +kernel
theorem dBC_25 : decode cBC 25 = .ok (.iload_n 0, 1) := by decide +kernel
theorem dBC_26 : decode cBC 26 = .ok (.iconst 4, 1) := by decide +kernel
theorem dBC_27 : decode cBC 27 = .ok (.iushr, 1) := by decide +kernel
theorem dBC_28 : decode cBC 28 = .ok (.iadd, 1) := by decide +kernel
theorem dBC_29 : decode cBC 29 = .ok (.ldc_w 267, 3) := by decide +kernel
theorem dBC_32 : decode cBC 32 = .ok (.iand, 1) := by decide +kernel
theorem dBC_33 : decode cBC 33 = .ok (.istore_n 0, 1) := by decide +kernel
theorem dBC_34 : decode cBC 34 = .ok (.iload_n 0, 1) := by decide +kernel
theorem dBC_35 : decode cBC 35 = .ok (.iload_n 0, 1) := by decide +kernel
theorem dBC_36 : decode cBC 36 = .ok (.bipush 8, 2) := by decide +kernel
theorem dBC_38 : decode cBC 38 = .ok (.iushr, 1) := by decide +kernel
theorem dBC_39 : decode cBC 39 = .ok (.iadd, 1) := by decide +kernel
theorem dBC_40 : decode cBC 40 = .ok (.istore_n 0, 1) := by decide +kernel
theorem dBC_41 : decode cBC 41 = .ok (.iload_n 0, 1) := by decide +kernel
theorem dBC_42 : decode cBC 42 = .ok (.iload_n 0, 1) := by decide +kernel
theorem dBC_43 : decode cBC 43 = .ok (.bipush 16, 2) := by decide +kernel
theorem dBC_45 : decode cBC 45 = .ok (.iushr, 1) := by decide +kernel
theorem dBC_46 : decode cBC 46 = .ok (.iadd, 1) := by decide +kernel
theorem dBC_47 : decode cBC 47 = .ok (.istore_n 0, 1) := by decide +kernel
theorem dBC_48 : decode cBC 48 = .ok (.iload_n 0, 1) := by decide +kernel
theorem dBC_49 : decode cBC 49 = .ok (.bipush 63, 2) := by decide +kernel
theorem dBC_51 : decode cBC 51 = .ok (.iand, 1) := by decide +kernel
theorem dBC_52 : decode cBC 52 = .ok (.ireturn, 1) := by decide +kernel
def bcF (x : Int32) : Int32 :=
  let s (x k : Int32) : Int32 := (x.toUInt32 >>> (k.toUInt32 &&& Int32.toUInt32 31)).toInt32
  let x1 := x - (s x 1 &&& 1431655765)
  let x2 := (x1 &&& 858993459) + (s x1 2 &&& 858993459)
  let x3 := (x2 + s x2 4) &&& 252645135
  let x4 := x3 + s x3 8
  let x5 := x4 + s x4 16
  x5 &&& 63
theorem bcF_ok : ∀ n, n < 32 → bcF (nI n) = Int32.ofInt (bitC (n : Int)) := by decide +kernel
set_option maxHeartbeats 4000000 in
theorem c_BC (l : Launch) (x : Int32) : Met l yBC wBC { frames := 0, cells := 0, slots := 0, locals := 0 } (va_Pc [.int x] (fun _ => True)) (fun _ st oc t => oc = .returned (some (.int (bcF x))) ∧ t.heap = st.heap) 0 0 (fun _ => False) := by
  refine Met.ofW (cc := cBC) (maxL := 1) (ret := some .int) (by decide +kernel) rfl ?_
  intro p e s m args below meth c s₁ B hml hv
  obtain ⟨rfl, -⟩ := hv
  have hx := B.exec
  have hb := B.bytes
  have hr := B.returns
  have hts := atoms_spec (ws := wBC) B.pre
  have hown : s.vm.findClass RJ6 = some m.cls := findClass_of_methodNamed B.named
  have hlocks := B.notSynchronized
  have hl := lv_entry ([.int x]) (n := 1) (Nat.le_of_ble_eq_true rfl)
  rw [lg_entry_eq]
  generalize (lg_sl ([.int x]) ++ List.replicate (1 - (lg_sl ([.int x])).length) Slot.unset).toArray = ls at hl ⊢
  have hl : lv_has ls 1 [(0, .int x)] := hl
  refine lv_iload_n hx hb dBC_0 rfl (lv_at hl 0 rfl) ?_
  refine lv_iload_n hx hb dBC_1 rfl (lv_at hl 0 rfl) ?_
  refine lv_iconst (v := 1) hx hb dBC_2 (by decide) ?_
  refine lv_iushr hx hb dBC_3 rfl ?_
  refine lv_ldcw hx hb hown (hts (.constant RJ6 265 1431655765) (by decide +kernel)) dBC_4 ?_
  refine lv_iand hx hb dBC_7 ?_
  refine lv_isub hx hb dBC_8 ?_
  refine lv_topi (fun y1 e1 => ?_)
  refine lv_istore_n (lv' := [(0, .int y1)]) hx hb dBC_9 rfl hl (by decide) rfl (fun ls hl => ?_)
  refine lv_iload_n hx hb dBC_10 rfl (lv_at hl 0 rfl) ?_
  refine lv_ldcw hx hb hown (hts (.constant RJ6 266 858993459) (by decide +kernel)) dBC_11 ?_
  refine lv_iand hx hb dBC_14 ?_
  refine lv_iload_n hx hb dBC_15 rfl (lv_at hl 0 rfl) ?_
  refine lv_iconst (v := 2) hx hb dBC_16 (by decide) ?_
  refine lv_iushr hx hb dBC_17 rfl ?_
  refine lv_ldcw hx hb hown (hts (.constant RJ6 266 858993459) (by decide +kernel)) dBC_18 ?_
  refine lv_iand hx hb dBC_21 ?_
  refine lv_iadd hx hb dBC_22 ?_
  refine lv_topi (fun y2 e2 => ?_)
  refine lv_istore_n (lv' := [(0, .int y2)]) hx hb dBC_23 rfl hl (by decide) rfl (fun ls hl => ?_)
  refine lv_iload_n hx hb dBC_24 rfl (lv_at hl 0 rfl) ?_
  refine lv_iload_n hx hb dBC_25 rfl (lv_at hl 0 rfl) ?_
  refine lv_iconst (v := 4) hx hb dBC_26 (by decide) ?_
  refine lv_iushr hx hb dBC_27 rfl ?_
  refine lv_iadd hx hb dBC_28 ?_
  refine lv_ldcw hx hb hown (hts (.constant RJ6 267 252645135) (by decide +kernel)) dBC_29 ?_
  refine lv_iand hx hb dBC_32 ?_
  refine lv_topi (fun y3 e3 => ?_)
  refine lv_istore_n (lv' := [(0, .int y3)]) hx hb dBC_33 rfl hl (by decide) rfl (fun ls hl => ?_)
  refine lv_iload_n hx hb dBC_34 rfl (lv_at hl 0 rfl) ?_
  refine lv_iload_n hx hb dBC_35 rfl (lv_at hl 0 rfl) ?_
  refine lv_bipush (v := 8) hx hb dBC_36 (by decide) ?_
  refine lv_iushr hx hb dBC_38 rfl ?_
  refine lv_iadd hx hb dBC_39 ?_
  refine lv_topi (fun y4 e4 => ?_)
  refine lv_istore_n (lv' := [(0, .int y4)]) hx hb dBC_40 rfl hl (by decide) rfl (fun ls hl => ?_)
  refine lv_iload_n hx hb dBC_41 rfl (lv_at hl 0 rfl) ?_
  refine lv_iload_n hx hb dBC_42 rfl (lv_at hl 0 rfl) ?_
  refine lv_bipush (v := 16) hx hb dBC_43 (by decide) ?_
  refine lv_iushr hx hb dBC_45 rfl ?_
  refine lv_iadd hx hb dBC_46 ?_
  refine lv_topi (fun y5 e5 => ?_)
  refine lv_istore_n (lv' := [(0, .int y5)]) hx hb dBC_47 rfl hl (by decide) rfl (fun ls hl => ?_)
  refine lv_iload_n hx hb dBC_48 rfl (lv_at hl 0 rfl) ?_
  refine lv_bipush (v := 63) hx hb dBC_49 (by decide) ?_
  refine lv_iand hx hb dBC_51 ?_
  subst e1; subst e2; subst e3; subst e4; subst e5
  exact W.iret hx hb hr (fun t ht hW => ⟨rfl, ht⟩) (fun q h => by cases h) dBC_52
section W2e
variable {p : Program} {l : Launch} {e : Env} {R : Room} {s : State} {m : MethodId} {args : Array Value} {below : List Frame} {meth : Method} {c : Code} {H : Heap} {locs : List Loc} {cells slots : Nat} {Q : State → Prop} {cc : ByteArray} {b nL pc o : Nat} {ls : Array Slot} {rest : List Value} {D : va_G} {σ : jS} {A : Nat → Prop}
theorem wBC_in : GoodIn jW wBC := by
  intro w hw
  have h : w ∈ jW := by
    rcases List.mem_cons.mp hw with rfl | hw
    · exact jW_mem (i := 723) (by decide +kernel) rfl
    rcases List.mem_cons.mp hw with rfl | hw
    · exact jW_mem (i := 724) (by decide +kernel) rfl
    rcases List.mem_cons.mp hw with rfl | hw
    · exact jW_mem (i := 725) (by decide +kernel) rfl
    rcases List.mem_cons.mp hw with rfl | hw
    · exact jW_mem (i := 726) (by decide +kernel) rfl
    · cases hw
  exact ⟨h, good_of_word (List.mem_filter.mp h).2⟩
theorem w_bit {n : Nat} {x : Int} (hx : p.tables.exec = Jvm.exec) (hb : c.code = cc) (hml : c.maxLocals = ls.size) (hts : ∀ w ∈ jW, w.before args s = true) (hown : s.vm.findClass (oN o) = some m.cls) (hd : decode cc pc = .ok (.invokestatic n, 3)) (ht : tM o n = some 1) (hf : 1 ≤ R.frames) (hlo : 20 ≤ R.locals) (hre : (rest.map fun v => v.category).sum ≤ 8) (hc : cells ≤ R.cells) (hs : slots ≤ R.slots) (h1 : 0 ≤ x) (h2 : x < 32)
    (kk : W p l e R s m args below meth c H locs cells slots Q (F0 m (pc + 3) ls (.int (Int32.ofInt (bitC x)) :: rest))) : W p l e R s m args below meth c H locs cells slots Q (F0 m pc ls (.int (Int32.ofInt x) :: rest)) := by
  refine w_call (va_runS (As := [.int (Int32.ofInt x)]) (rest := rest) (n := 1) ⟨hx, hb, hml, hown, hts⟩ (c_BC l (Int32.ofInt x)) ⟨callB_of 1 hts wBC_in rfl rfl rfl (hts (.initialized RJ6) (jW_mem (i := 76) (by decide +kernel) rfl)) (tM_use hts ht) (by decide +kernel) ⟨hf, by omega⟩, hts (.static yBC) (jW_mem (i := 722) (by decide +kernel) rfl)⟩ ⟨fun a U g mk q => q, fun U hU hW => ⟨rfl, trivial⟩⟩ rfl rfl rfl rfl (lv_room hre) hd ⟨hc, hs⟩) (fun v st₀ t H1 L e1 e2 hW hq hL => ?_)
  obtain ⟨hv, ht⟩ := hq
  cases hv
  have e3 : H1 = H := by rw [← e2, ht, e1]
  subst e3
  have e4 : L = [] := by
    cases L with
    | nil => rfl
    | cons q L => exact absurd (hL q List.mem_cons_self) id
  subst e4
  rw [List.append_nil]
  have e5 : bcF (Int32.ofInt x) = Int32.ofInt (bitC x) := by
    rw [oI_nat h1, bcF_ok x.toNat (by omega), Int.toNat_of_nonneg h1]
  rw [e5]
  exact kk
end W2e
end
section
section W2f
variable {p : Program} {l : Launch} {e : Env} {R : Room} {s : State} {m : MethodId} {args : Array Value} {below : List Frame} {meth : Method} {c : Code} {H : Heap} {locs : List Loc} {cells slots : Nat} {Q : State → Prop} {cc : ByteArray} {b nL pc o : Nat} {ls : Array Slot} {D : va_G} {σ σ' : jS} {A : Nat → Prop} {S S' : List jV}
set_option maxHeartbeats 4000000 in
theorem w2 {i : Instr} {init : Bool} (hx : p.tables.exec = Jvm.exec) (hb : c.code = cc) (hml : c.maxLocals = ls.size) (hts : ∀ w ∈ jW, w.before args s = true) (hown : s.vm.findClass (oN o) = some m.cls) (hd : decode cc pc = .ok (i, ilen i)) (hin : init = true → meth.name = "<init>") (hR : jR D b σ s H) (hS : va_S A s.heap H locs) (hA : ∀ k, k < σ'.2.1 → A (b + k)) (hN : σ.1 = true → s.heap.size + cells = b + σ.2.1) (hf : 1 ≤ R.frames) (hlo : 100 ≤ R.locals) (hc : cells + (σ'.2.1 - σ.2.1) ≤ R.cells) (hs : slots + (σ'.2.2.1 - σ.2.2.1) ≤ R.slots) (h : s2 o init i S σ = some (S', σ'))
    (k : ∀ (H1 : Heap) (locs1 : List Loc) (cells1 slots1 : Nat), jR D b σ' s H1 → va_S A s.heap H1 locs1 → σ'.1 = σ.1 → cells1 + σ.2.1 = cells + σ'.2.1 → slots1 + σ.2.2.1 = slots + σ'.2.2.1 → W p l e R s m args below meth c H1 locs1 cells1 slots1 Q (F0 m (pc + ilen i) ls (S'.map (rv b)))) : W p l e R s m args below meth c H locs cells slots Q (F0 m pc ls (S.map (rv b))) := by
  cases i
  case getfield n =>
    unfold s2 at h
    dsimp only at h
    split at h
    · rename_i kk S0 ci j rf fin ht
      split at h
      · rename_i hc1
        simp only [Bool.and_eq_true, decide_eq_true_eq] at hc1
        refine w_get (ls := ls) hx hb hts hown hd hR ht hc1.1 hc1.2 ?_
        split at h
        · rename_i h1
          cases h
          rw [if_pos h1]
          exact k H locs cells slots hR hS rfl rfl rfl
        · rename_i h1
          cases h
          rw [if_neg h1]
          exact k H locs cells slots hR hS rfl rfl rfl
      · cases h
    · cases h
  case putfield n =>
    unfold s2 at h
    dsimp only at h
    split at h
    · rename_i z kk S0 ci j rf fin ht
      split at h <;> cases h
      rename_i hc1
      simp only [Bool.and_eq_true, decide_eq_true_eq, beq_iff_eq] at hc1
      exact w_putI hx hb hts hown hd hR hS hA ht hc1.1.1.1 hc1.1.1.2 hc1.1.2 hc1.2 (fun H1 l1 g1 g2 => k H1 l1 cells slots g1 g2 rfl rfl rfl)
    · rename_i q kk S0 ci j rf fin ht
      split at h <;> cases h
      rename_i hc1
      simp only [Bool.and_eq_true, decide_eq_true_eq, beq_iff_eq, Bool.or_eq_true] at hc1
      exact w_putR hx hb hts hown hd hR hS hA ht hc1.1.1.1 hc1.1.1.2 hc1.1.2 (hc1.2.imp id (fun q => ⟨hin q.1, q.2⟩)) (fun H1 l1 g1 g2 => k H1 l1 cells slots g1 g2 rfl rfl rfl)
    · cases h
  case iaload =>
    unfold s2 at h
    dsimp only at h
    split at h
    · split at h <;> cases h
      rename_i hc1
      simp only [Bool.and_eq_true, decide_eq_true_eq, beq_iff_eq] at hc1
      exact w_iald hx hb hd hR hc1.1.1.1 hc1.1.1.2 hc1.1.2 hc1.2 (k H locs cells slots hR hS rfl rfl rfl)
    · cases h
  case baload =>
    unfold s2 at h
    dsimp only at h
    split at h
    · split at h <;> cases h
      rename_i hc1
      simp only [Bool.and_eq_true, decide_eq_true_eq, beq_iff_eq] at hc1
      exact w_zald hx hb hd hR hc1.1.1.1 hc1.1.1.2 hc1.1.2 hc1.2 (k H locs cells slots hR hS rfl rfl rfl)
    · cases h
  case aaload =>
    unfold s2 at h
    dsimp only at h
    split at h
    · split at h <;> cases h
      rename_i hc1
      simp only [Bool.and_eq_true, decide_eq_true_eq] at hc1
      exact w_aald hx hb hd hR hc1.1.1.1.1 hc1.1.1.1.2 hc1.1.1.2 hc1.1.2 hc1.2 (k H locs cells slots hR hS rfl rfl rfl)
    · cases h
  case iastore =>
    unfold s2 at h
    dsimp only at h
    split at h
    · split at h <;> cases h
      rename_i hc1
      simp only [Bool.and_eq_true, decide_eq_true_eq, beq_iff_eq] at hc1
      exact w_iast hx hb hd hR hS hA hc1.1.1.1 hc1.1.1.2 hc1.1.2 hc1.2 (fun H1 l1 g1 g2 => k H1 l1 cells slots g1 g2 rfl rfl rfl)
    · cases h
  case bastore =>
    unfold s2 at h
    dsimp only at h
    split at h
    · split at h <;> cases h
      rename_i hc1
      simp only [Bool.and_eq_true, decide_eq_true_eq, beq_iff_eq, Bool.or_eq_true] at hc1
      exact w_zast hx hb hd hR hS hA hc1.1.1.1.1 hc1.1.1.1.2 hc1.1.1.2 hc1.1.2 hc1.2 (fun H1 l1 g1 g2 => k H1 l1 cells slots g1 g2 rfl rfl rfl)
    · cases h
  case aastore =>
    unfold s2 at h
    dsimp only at h
    split at h
    · split at h <;> cases h
      rename_i hc1
      simp only [Bool.and_eq_true, decide_eq_true_eq] at hc1
      exact w_aast hx hb hd hR hS hA hc1.1.1.1.1.1.1.1 hc1.1.1.1.1.1.1.2 hc1.1.1.1.1.1.2 hc1.1.1.1.1.2 hc1.1.1.1.2 hc1.1.1.2 hc1.1.2 hc1.2 (fun H1 l1 g1 g2 => k H1 l1 cells slots g1 g2 rfl rfl rfl)
    · cases h
  case arraylength =>
    unfold s2 at h
    dsimp only at h
    split at h
    · split at h <;> cases h
      rename_i hc1
      simp only [Bool.and_eq_true, decide_eq_true_eq] at hc1
      exact w_len hx hb hd hR hc1.1.1 hc1.1.2 (k H locs cells slots hR hS rfl rfl rfl)
    · cases h
  case instanceof n =>
    unfold s2 at h
    dsimp only at h
    split at h
    · rename_i kk S0 w ht
      split at h
      · rename_i hc1
        simp only [Bool.and_eq_true, decide_eq_true_eq] at hc1
        obtain ⟨r, hr, e1⟩ := Option.map_eq_some_iff.mp h
        cases e1
        exact w_inst hx hb hts hown hd hR ht hc1.1 hc1.2 hr (k H locs cells slots hR hS rfl rfl rfl)
      · cases h
    · cases h
  case new n =>
    unfold s2 at h
    dsimp only at h
    obtain ⟨ci, ht, h⟩ := Option.bind_eq_some_iff.mp h
    split at h <;> cases h
    rename_i hc1
    simp only [Bool.and_eq_true, decide_eq_true_eq] at hc1
    dsimp only at hc hs
    refine w_new hx hb hts hown hd hR hS ht hc1.2 (hN hc1.1) (by omega) (by omega) (fun H1 g1 g2 => k H1 locs _ _ g1 g2 hc1.1.symm ?_ ?_)
    · dsimp only; omega
    · dsimp only; omega
  case newarray t =>
    unfold s2 at h
    dsimp only at h
    split at h
    · split at h <;> cases h
      rename_i hc1
      simp only [Bool.and_eq_true, decide_eq_true_eq, Bool.or_eq_true, beq_iff_eq] at hc1
      dsimp only at hc hs
      have ht : t = .int ∨ t = .boolean := by
        have q := hc1.2
        clear k hd hc1
        cases t <;> first | exact Or.inl rfl | exact Or.inr rfl | (rcases q with q | q <;> cases q)
      refine w_newa hx hb hts hd hR hS ht hc1.1.1.2 hc1.1.2 hc1.1.1.1.2 (hN hc1.1.1.1.1) (by omega) (by omega) (fun H1 g1 g2 => k H1 locs _ _ g1 g2 hc1.1.1.1.1.symm ?_ ?_)
      · dsimp only; omega
      · dsimp only; omega
    · cases h
  case anewarray n =>
    unfold s2 at h
    dsimp only at h
    split at h
    · rename_i x S0 t ht
      split at h <;> cases h
      rename_i hc1
      simp only [Bool.and_eq_true, decide_eq_true_eq] at hc1
      dsimp only at hc hs
      refine w_anew hx hb hts hown hd hR hS ht hc1.1.2 hc1.2 hc1.1.1.2 (hN hc1.1.1.1) (by omega) (by omega) (fun H1 g1 g2 => k H1 locs _ _ g1 g2 hc1.1.1.1.symm ?_ ?_)
      · dsimp only; omega
      · dsimp only; omega
    · cases h
  case invokespecial n =>
    unfold s2 at h
    dsimp only at h
    split at h
    · split at h <;> cases h
      rename_i hc1
      simp only [Bool.and_eq_true, decide_eq_true_eq] at hc1
      exact w_obj hx hb hml hts hown hd hc1.1 hf (by rw [sz_rv]; omega) (k H locs cells slots hR hS rfl rfl rfl)
    · cases h
  case invokestatic n =>
    unfold s2 at h
    dsimp only at h
    split at h
    · rename_i ht
      split at h
      · split at h <;> cases h
        rename_i hc1
        simp only [Bool.and_eq_true, decide_eq_true_eq, beq_iff_eq] at hc1
        exact w_copy hx hb hml hts hown hd ht hf (by rw [sz_rv]; omega) hR hS hA hc1.1.1.1.1.1.1.1.1.1 hc1.1.1.1.1.1.1.1.1.2 hc1.1.1.1.1.1.1.1.2 hc1.1.1.1.1.1.1.2 hc1.1.1.1.1.1.2 hc1.1.1.1.1.2 hc1.1.1.1.2 hc1.1.1.2 hc1.1.2 (fun H1 l1 g1 g2 => k H1 l1 cells slots g1 g2 rfl rfl rfl)
      · cases h
    · rename_i ht
      split at h
      · split at h <;> cases h
        rename_i hc1
        simp only [Bool.and_eq_true, decide_eq_true_eq] at hc1
        exact w_abs hx hb hml hts hown hd ht hf (by rw [sz_rv]; omega) (by omega) (by omega) (inB_iff.mpr (by omega)) (k H locs cells slots hR hS rfl rfl rfl)
      · cases h
    · rename_i ht
      split at h
      · split at h <;> cases h
        rename_i hc1
        simp only [Bool.and_eq_true, decide_eq_true_eq] at hc1
        exact w_max hx hb hml hts hown hd ht hf (by rw [sz_rv]; omega) (by omega) (by omega) hc1.1.1 hc1.1.2 (k H locs cells slots hR hS rfl rfl rfl)
      · cases h
    · rename_i ht
      split at h
      · split at h <;> cases h
        rename_i hc1
        simp only [Bool.and_eq_true, decide_eq_true_eq] at hc1
        exact w_min hx hb hml hts hown hd ht hf (by rw [sz_rv]; omega) (by omega) (by omega) hc1.1.1 hc1.1.2 (k H locs cells slots hR hS rfl rfl rfl)
      · cases h
    · rename_i ht
      split at h
      · split at h <;> cases h
        rename_i hc1
        simp only [Bool.and_eq_true, decide_eq_true_eq] at hc1
        exact w_bit hx hb hml hts hown hd ht hf (by omega) (by rw [sz_rv]; exact hc1.2) (by omega) (by omega) hc1.1.1 hc1.1.2 (k H locs cells slots hR hS rfl rfl rfl)
      · cases h
    · cases h
  all_goals (unfold s2 at h; cases h)
theorem toPc_eq {off : Int} {t : Nat} (h : toPc pc off = some t) : (pc : Int) + off = (t : Int) := by
  unfold toPc at h
  split at h <;> cases h
  rename_i h1
  simp only [decide_eq_true_eq] at h1
  omega
set_option maxHeartbeats 4000000 in
theorem w3 {i : Instr} {len pc' : Nat} (hx : p.tables.exec = Jvm.exec) (hb : c.code = cc) (hd : decode cc pc = .ok (i, len)) (hle : lenOk i len = true) (h : s3 i pc len S = some (pc', S'))
    (k : W p l e R s m args below meth c H locs cells slots Q (F0 m pc' ls (S'.map (rv b)))) : W p l e R s m args below meth c H locs cells slots Q (F0 m pc ls (S.map (rv b))) := by
  cases i
  case goto off =>
    have hle : (len == 3) = true := hle
    rw [beq_iff_eq] at hle
    subst hle
    unfold s3 at h
    dsimp only at h
    obtain ⟨t, ht, e1⟩ := Option.map_eq_some_iff.mp h
    cases e1
    exact lv_goto hx hb hd (toPc_eq ht) k
  case ifCond cd off =>
    have hle : (len == 3) = true := hle
    rw [beq_iff_eq] at hle
    subst hle
    unfold s3 at h
    dsimp only at h
    split at h
    · rename_i x S0
      split at h
      · rename_i h0
        have e0 : Int32.ofInt x = 0 ↔ x = 0 := oI_eq (y := 0) h0 (by decide)
        have e1 : Int32.ofInt x < 0 ↔ x < 0 := oI_lt (y := 0) h0 (by decide)
        have e2 : Int32.ofInt x ≤ 0 ↔ x ≤ 0 := oI_le (y := 0) h0 (by decide)
        have e3 : (0 : Int32) < Int32.ofInt x ↔ 0 < x := oI_lt (x := 0) (by decide) h0
        have e4 : (0 : Int32) ≤ Int32.ofInt x ↔ 0 ≤ x := oI_le (x := 0) (by decide) h0
        obtain ⟨t, ht, e1'⟩ := Option.map_eq_some_iff.mp h
        cases e1'
        have ht := toPc_eq ht
        cases cd
        · exact lv_if_eq hx hb hd ht (fun q => by rw [if_pos (by simpa [cmpB] using e0.mp q)] at k; exact k) (fun q => by rw [if_neg (by simpa [cmpB] using fun z => q (e0.mpr z))] at k; exact k)
        · exact lv_if_ne hx hb hd ht (fun q => by rw [if_pos (by simpa [cmpB] using fun z => q (e0.mpr z))] at k; exact k) (fun q => by rw [if_neg (by simpa [cmpB] using e0.mp q)] at k; exact k)
        · exact lv_if_lt hx hb hd ht (fun q => by rw [if_pos (by simpa [cmpB] using e1.mp q)] at k; exact k) (fun q => by rw [if_neg (by simpa [cmpB] using fun z => q (e1.mpr z))] at k; exact k)
        · exact lv_if_ge hx hb hd ht (fun q => by rw [if_pos (by simpa [cmpB] using e4.mp q)] at k; exact k) (fun q => by rw [if_neg (by simpa [cmpB] using fun z => q (e4.mpr z))] at k; exact k)
        · exact lv_if_gt hx hb hd ht (fun q => by rw [if_pos (by simpa [cmpB] using e3.mp q)] at k; exact k) (fun q => by rw [if_neg (by simpa [cmpB] using fun z => q (e3.mpr z))] at k; exact k)
        · exact lv_if_le hx hb hd ht (fun q => by rw [if_pos (by simpa [cmpB] using e2.mp q)] at k; exact k) (fun q => by rw [if_neg (by simpa [cmpB] using fun z => q (e2.mpr z))] at k; exact k)
      · cases h
    · cases h
  case if_icmp cd off =>
    have hle : (len == 3) = true := hle
    rw [beq_iff_eq] at hle
    subst hle
    unfold s3 at h
    dsimp only at h
    split at h
    · rename_i y x S0
      split at h
      · rename_i h0
        simp only [Bool.and_eq_true] at h0
        have e0 : Int32.ofInt x = Int32.ofInt y ↔ x = y := oI_eq h0.1 h0.2
        have e1 : Int32.ofInt x < Int32.ofInt y ↔ x < y := oI_lt h0.1 h0.2
        have e2 : Int32.ofInt x ≤ Int32.ofInt y ↔ x ≤ y := oI_le h0.1 h0.2
        have e3 : Int32.ofInt y < Int32.ofInt x ↔ y < x := oI_lt h0.2 h0.1
        have e4 : Int32.ofInt y ≤ Int32.ofInt x ↔ y ≤ x := oI_le h0.2 h0.1
        obtain ⟨t, ht, e1'⟩ := Option.map_eq_some_iff.mp h
        cases e1'
        have ht := toPc_eq ht
        cases cd
        · exact lv_icmp_eq hx hb hd ht (fun q => by rw [if_pos (by simpa [cmpB] using e0.mp q)] at k; exact k) (fun q => by rw [if_neg (by simpa [cmpB] using fun z => q (e0.mpr z))] at k; exact k)
        · exact lv_icmp_ne hx hb hd ht (fun q => by rw [if_pos (by simpa [cmpB] using fun z => q (e0.mpr z))] at k; exact k) (fun q => by rw [if_neg (by simpa [cmpB] using e0.mp q)] at k; exact k)
        · exact lv_icmp_lt hx hb hd ht (fun q => by rw [if_pos (by simpa [cmpB] using e1.mp q)] at k; exact k) (fun q => by rw [if_neg (by simpa [cmpB] using fun z => q (e1.mpr z))] at k; exact k)
        · exact lv_icmp_ge hx hb hd ht (fun q => by rw [if_pos (by simpa [cmpB] using e4.mp q)] at k; exact k) (fun q => by rw [if_neg (by simpa [cmpB] using fun z => q (e4.mpr z))] at k; exact k)
        · exact lv_icmp_gt hx hb hd ht (fun q => by rw [if_pos (by simpa [cmpB] using e3.mp q)] at k; exact k) (fun q => by rw [if_neg (by simpa [cmpB] using fun z => q (e3.mpr z))] at k; exact k)
        · exact lv_icmp_le hx hb hd ht (fun q => by rw [if_pos (by simpa [cmpB] using e2.mp q)] at k; exact k) (fun q => by rw [if_neg (by simpa [cmpB] using fun z => q (e2.mpr z))] at k; exact k)
      · cases h
    · cases h
  case tableswitch df lo hi offs =>
    unfold s3 at h
    dsimp only at h
    split at h
    · rename_i x S0
      split at h
      · rename_i h0
        split at h
        · rename_i h1
          obtain ⟨t, ht, e1⟩ := Option.map_eq_some_iff.mp h
          cases e1
          exact lv_tableOut hx hb hd (by rw [oI_t h0]; exact h1) (toPc_eq ht) k
        · rename_i h1
          obtain ⟨off, ho, h⟩ := Option.bind_eq_some_iff.mp h
          obtain ⟨t, ht, e1⟩ := Option.map_eq_some_iff.mp h
          cases e1
          exact lv_tableIn hx hb hd (by rw [oI_t h0]; omega) (by rw [oI_t h0]; omega) (by rw [oI_t h0]; exact ho) (toPc_eq ht) k
      · cases h
    · cases h
  case lookupswitch df ps =>
    unfold s3 at h
    dsimp only at h
    split at h
    · rename_i x S0
      split at h
      · rename_i h0
        simp only [Bool.and_eq_true] at h0
        obtain ⟨t, ht, e1⟩ := Option.map_eq_some_iff.mp h
        cases e1
        exact lv_lookup hx hb hd h0.2 (by rw [oI_t h0.1]) (toPc_eq ht) k
      · cases h
    · cases h
  all_goals (unfold s3 at h; cases h)
end W2f
end
section
/-! CALLS: a method's contract out of a run of the small machine -/
def jRM (d mc ms : Nat) : Room := { frames := d + 1, cells := mc, slots := ms, locals := 100 * (d + 1) }
def jP (D : va_G) (b : Nat) (a : List jV) (σ : jS) : Array Value → State → Prop := va_Pc (a.map (rv b)) (fun U => jR D b σ U U.heap ∧ (σ.1 = true → U.heap.size = b + σ.2.1))
def jQ (D : va_G) (b : Nat) (r : Option jV) (σ' : jS) (A : Nat → Prop) : Array Value → State → Outcome → State → Prop := fun _ st oc t => oc = .returned (r.map (rv b)) ∧ jR D b σ' t t.heap ∧ va_F A st t
def jws (m : Nat) : List Cond := Cond.code (mY m) (mB m) (mL m) (mR m) :: jW
def jMet (l : Launch) (D : va_G) (b : Nat) (A : Nat → Prop) (d m : Nat) (a : List jV) (σ : jS) (r : Option jV) (σ' : jS) : Prop := Met l (mY m) (jws m) (jRM d (σ'.2.1 - σ.2.1) (σ'.2.2.1 - σ.2.2.1)) (jP D b a σ) (jQ D b r σ' A) (σ'.2.1 - σ.2.1) (σ'.2.2.1 - σ.2.2.1) A
theorem jP_blind {D : va_G} {b : Nat} {a : List jV} {σ : jS} : FrameBlind (jP D b a σ) := fun a U g mk q => ⟨q.1, q.2.1.same (U := U.calling g mk a) rfl, q.2.2⟩
theorem jGood {m : Nat} (hm : m < 230) : GoodIn jW (jws m) := by
  intro w hw
  have h : w ∈ jW := by
    rcases List.mem_cons.mp hw with rfl | h
    · exact mT_code m hm
    · exact h
  exact ⟨h, good_of_word (List.mem_filter.mp h).2⟩
theorem jR.back {D : va_G} {b : Nat} {σ : jS} {s t : State} {H : Heap} (hW : s.WarmedH t.vm) (h : jR D b σ t H) (hX : jX s) : jR D b σ s H := by
  obtain ⟨ac, tys, h1, h2, h3, -⟩ := h
  exact ⟨ac, tys, va_K.moved hW.alike.symm h1, h2, h3, hX⟩
theorem jR.x {D : va_G} {b : Nat} {σ : jS} {s : State} {H : Heap} (h : jR D b σ s H) : jX s := by
  obtain ⟨ac, tys, h1, h2, h3, h⟩ := h
  exact h
theorem mT_cls {m : Nat} (hm : m < 230) : (mY m).cls = oN (mO m) ∧ mO m < 13 ∧ plainName (mY m).cls = true ∧ (mY m).cls ≠ "java/lang/invoke/MethodHandle" ∧ (mY m).cls ≠ "java/lang/invoke/VarHandle" ∧ (parseMethodDescriptor (mY m).desc).map (fun d => d.parameters.length) = some (mP m) ∧ mL m ≤ 20 := by
  have h1 := rng mT_own hm
  simp only [Bool.and_eq_true, decide_eq_true_eq] at h1
  have h2 := rng mT_plain h1.2
  have h3 := rng mT_par hm
  simp only [Bool.and_eq_true, decide_eq_true_eq] at h2 h3
  rw [← h1.1] at h2
  exact ⟨h1.1, h1.2, h2.1.1, h2.1.2, h2.2, h3.1, h3.2⟩
theorem popN_eq : ∀ {n : Nat} {S a r : List jV}, popN n S = some (a, r) → S = a.reverse ++ r ∧ a.length = n := by
  intro n
  induction n with
  | zero => intro S a r h; cases h; exact ⟨rfl, rfl⟩
  | succ n ih =>
    intro S a r h
    cases S with
    | nil => cases h
    | cons v S =>
      obtain ⟨⟨a', r'⟩, h1, h2⟩ := Option.map_eq_some_iff.mp h
      cases h2
      obtain ⟨h3, h4⟩ := ih h1
      refine ⟨?_, by simp [h4]⟩
      simp [h3]
section W5
variable {p : Program} {l : Launch} {e : Env} {R : Room} {s : State} {m : MethodId} {args : Array Value} {below : List Frame} {meth : Method} {c : Code} {H : Heap} {locs : List Loc} {cells slots : Nat} {Q : State → Prop} {cc : ByteArray} {b nL pc o : Nat} {ls : Array Slot} {D : va_G} {σ σ' : jS} {A : Nat → Prop} {S S' a : List jV} {m' d : Nat} {r : Option jV}
theorem w_size {g : JFrame} (hR : jR D b σ s H) (hN : σ.1 = true → s.heap.size + cells = b + σ.2.1 ∧ 0 < σ.2.1) (kk : (σ.1 = true → H.size = b + σ.2.1) → W p l e R s m args below meth c H locs cells slots Q g) : W p l e R s m args below meth c H locs cells slots Q g := by
  refine w_sz (fun z1 z2 => kk (fun ho => ?_))
  obtain ⟨h1, h2⟩ := hN ho
  have := jR_lt hR (k := σ.2.1 - 1) (by omega)
  omega
/-- behind a call -/
theorem w_back {Ar : Array Value} {st0 : List Value} (hR : jR D b σ s H) (hS : va_S A s.heap H locs)
    (hr : va_Run p l e R s m args below meth c H locs cells slots (σ'.2.1 - σ.2.1) (σ'.2.2.1 - σ.2.2.1) (F0 m pc ls st0) (S'.map (rv b)) (jQ D b r σ' A Ar) A)
    (kk : ∀ (H1 : Heap) (locs1 : List Loc), jR D b σ' s H1 → va_S A s.heap H1 locs1 → W p l e R s m args below meth c H1 locs1 (cells + (σ'.2.1 - σ.2.1)) (slots + (σ'.2.2.1 - σ.2.2.1)) Q (F0 m (pc + 3) ls ((r.toList ++ S').map (rv b)))) : W p l e R s m args below meth c H locs cells slots Q (F0 m pc ls st0) := by
  refine w_call hr (fun v st₀ t H1 L e1 e2 hW hq hL => ?_)
  obtain ⟨q1, q2, q3⟩ := hq
  have q1 : v = r.map (rv b) := Option.some.inj (by cases q1; rfl)
  subst q1
  rw [e2] at q2
  have h1 : (r.map (rv b)).toList ++ S'.map (rv b) = (r.toList ++ S').map (rv b) := by cases r <;> simp
  rw [h1]
  obtain ⟨z1, z2⟩ := q3
  rw [e1, e2] at z1 z2
  refine kk H1 (locs ++ L) (q2.back hW hR.x) ⟨Nat.le_trans hS.1 z1, fun q g1 g2 => ?_, fun q hq => ?_⟩
  · rw [z2 q (Nat.lt_of_lt_of_le g1 hS.1) g2]; exact hS.2.1 q g1 g2
  · rcases List.mem_append.mp hq with h | h
    · exact hS.2.2 q h
    · exact hL q h
theorem pre_of (hR : jR D b σ s H) (hz : σ.1 = true → H.size = b + σ.2.1) : ∀ U : State, U.heap = H → s.WarmedH U.vm → jP D b a σ (a.map (rv b)).toArray U := fun U hU hW => ⟨rfl, by rw [hU]; exact hR.warm hW, fun ho => by rw [hU]; exact hz ho⟩
theorem tS_use {n : Nat} (hts : ∀ w ∈ jW, w.before args s = true) (h : tS o n = some m') : m' < 230 ∧ (Cond.static (mY m')).before args s = true ∧ (Cond.initialized (mY m').cls).before args s = true ∧ ((Cond.methodLink (oN o) n (mY m')).before args s = true ∨ ((Cond.methodLink (oN o) n ⟨oN o, (mY m').name, (mY m').desc⟩).before args s = true ∧ (Cond.sameMethod (oN o) (mY m').cls (mY m').name (mY m').desc).before args s = true)) := by
  obtain ⟨⟨e0, e1, e2, e3, e4, e5, e6⟩, he, h1, h2⟩ := find_mem h
  have h3 := List.all_eq_true.mp tS_ok _ he
  simp only [Bool.and_eq_true, beq_iff_eq, decide_eq_true_eq, Bool.or_eq_true] at h1 h3
  obtain ⟨rfl, rfl⟩ := h1
  have h2 : e2 = m' := h2
  subst h2
  refine ⟨h3.1.2, hts _ (jW_mem h3.1.1.1.2 rfl), hts _ (jW_mem h3.1.1.2 rfl), ?_⟩
  have h4 := h3.1.1.1.1
  rcases h3.2 with h5 | h5
  · rw [if_pos h5] at h4
    exact Or.inl (hts _ (jW_mem h4 rfl))
  · by_cases h6 : e6 = 0
    · rw [if_pos h6] at h4
      exact Or.inl (hts _ (jW_mem h4 rfl))
    · rw [if_neg h6] at h4
      exact Or.inr ⟨hts _ (jW_mem h4 rfl), hts _ (jW_mem h5 rfl)⟩
theorem tI_use {n : Nat} (hts : ∀ w ∈ jW, w.before args s = true) (h : tI o n = some m') : m' < 230 ∧ (Cond.methodLink (oN o) n (mY m')).before args s = true ∧ (Cond.instanceMethod (mY m')).before args s = true ∧ (Cond.initialized (mY m').cls).before args s = true ∧ (mY m').name = "<init>" ∧ mR m' = none := by
  obtain ⟨⟨e0, e1, e2, e3, e4, e5⟩, he, h1, h2⟩ := find_mem h
  have h3 := List.all_eq_true.mp tI_ok _ he
  simp only [Bool.and_eq_true, beq_iff_eq, decide_eq_true_eq] at h1 h3
  obtain ⟨rfl, rfl⟩ := h1
  have h2 : e2 = m' := h2
  subst h2
  exact ⟨h3.1.1.2, hts _ (jW_mem h3.1.1.1.1.1 rfl), hts _ (jW_mem h3.1.1.1.1.2 rfl), hts _ (jW_mem h3.1.1.1.2 rfl), h3.1.2, h3.2⟩
theorem tJ_use {n : Nat} (hX : jX s) (hts : ∀ w ∈ jW, w.before args s = true) (h : tJ o n = some m') : m' < 230 ∧ va_Nw (.methodLinkNest (oN o) n (mY m') RX11) s ∧ (Cond.instanceMethod (mY m')).before args s = true ∧ (Cond.initialized (mY m').cls).before args s = true ∧ (mY m').name = "<init>" ∧ mR m' = none := by
  obtain ⟨⟨e0, e1, e2, e3, e4, e5⟩, he, h1, h2⟩ := find_mem h
  have h3 := List.all_eq_true.mp tJ_ok _ he
  have hX := hX.1 _ he
  simp only [Bool.and_eq_true, beq_iff_eq, decide_eq_true_eq] at h1 h3
  obtain ⟨rfl, rfl⟩ := h1
  have h2 : e2 = m' := h2
  subst h2
  exact ⟨h3.1.1.2, hX, hts _ (jW_mem h3.1.1.1.1.2 rfl), hts _ (jW_mem h3.1.1.1.2 rfl), h3.1.2, h3.2⟩
theorem tP_use {n : Nat} (hts : ∀ w ∈ jW, w.before args s = true) (h : tP o n = some m') : m' < 230 ∧ (Cond.methodLink (oN o) n (mY m')).before args s = true ∧ (Cond.instanceMethod (mY m')).before args s = true ∧ (Cond.initialized (mY m').cls).before args s = true ∧ (Cond.sameMethod (mY m').cls (mY m').cls (mY m').name (mY m').desc).before args s = true ∧ (Cond.superclass (oN o) (mY m').cls).before args s = true ∧ (mY m').name ≠ "<init>" := by
  obtain ⟨⟨e0, e1, e2, e3, e4, e5, e6, e7⟩, he, h1, h2⟩ := find_mem h
  have h3 := List.all_eq_true.mp tP_ok _ he
  simp only [Bool.and_eq_true, beq_iff_eq, decide_eq_true_eq, Bool.not_eq_true'] at h1 h3
  obtain ⟨rfl, rfl⟩ := h1
  have h2 : e2 = m' := h2
  subst h2
  refine ⟨h3.1.2, hts _ (jW_mem h3.1.1.1.1.1.1 rfl), hts _ (jW_mem h3.1.1.1.1.1.2 rfl), hts _ (jW_mem h3.1.1.1.1.2 rfl), hts _ (jW_mem h3.1.1.1.2 rfl), hts _ (jW_mem h3.1.1.2 rfl), fun q => ?_⟩
  have h4 := h3.2
  rw [q] at h4
  revert h4
  decide
theorem callB {n : Nat} (hts : ∀ w ∈ jW, w.before args s = true) (hm : m' < 230) (hini : (Cond.initialized (mY m').cls).before args s = true) (hl : (Cond.methodLink (oN o) n (mY m')).before args s = true) {mc ms : Nat} (hf : d + 2 ≤ R.frames) (hlo : 100 * (d + 2) ≤ R.locals) : CallB R s args (oN o) n (mY m') (mB m') (mL m') (mR m') (jws m') (jRM d mc ms) mc ms (mP m') := by
  obtain ⟨-, -, -, h1, h2, h3, h4⟩ := mT_cls hm
  exact callB_of _ hts (jGood hm) rfl rfl rfl hini hl ⟨h1, h2, h3⟩ ⟨hf, by show 8 + (mL m' + 11) + 100 * (d + 1) ≤ _; omega⟩
end W5
end
section
/-- calls that name another method than they run: class, entry, receiver, method run, places of the words, 1 abstract | 2 with a body, which is named -/
def tWl : List (Nat × Nat × Nat × Nat × Nat × Nat × Nat × Nat × Nat × Nat) := [(1, 20, 5, 54, 581, 601, 583, 1, 1, 0), (1, 20, 7, 76, 581, 605, 583, 1, 1, 0), (1, 20, 0, 2, 581, 584, 583, 1, 1, 0), (1, 20, 9, 105, 581, 610, 583, 1, 1, 0),
  (1, 20, 2, 15, 581, 594, 583, 1, 1, 0), (1, 35, 5, 55, 614, 626, 616, 1, 2, 0), (1, 35, 7, 55, 614, 627, 616, 1, 2, 0), (1, 35, 0, 3, 614, 617, 616, 1, 2, 0),
  (1, 35, 9, 106, 614, 628, 616, 1, 2, 0), (1, 35, 2, 106, 614, 623, 616, 1, 2, 0), (1, 48, 5, 53, 503, 512, 505, 1, 0, 0), (1, 48, 7, 75, 503, 515, 505, 1, 0, 0),
  (1, 48, 0, 1, 503, 506, 505, 1, 0, 0), (1, 48, 9, 104, 503, 518, 505, 1, 0, 0), (1, 48, 2, 14, 503, 509, 505, 1, 0, 0), (6, 34, 7, 78, 920, 929, 923, 2, 57, 921),
  (6, 34, 0, 4, 920, 924, 923, 2, 57, 921), (10, 29, 2, 16, 959, 1362, 1358, 2, 107, 944), (11, 281, 5, 53, 900, 512, 505, 1, 0, 0), (11, 281, 7, 75, 900, 515, 505, 1, 0, 0),
  (11, 281, 0, 1, 900, 506, 505, 1, 0, 0), (11, 281, 9, 104, 900, 518, 505, 1, 0, 0), (11, 281, 2, 14, 900, 509, 505, 1, 0, 0), (11, 288, 5, 56, 912, 948, 914, 2, 43, 913),
  (11, 288, 7, 77, 912, 949, 914, 2, 43, 913), (11, 288, 0, 56, 912, 915, 914, 2, 43, 913), (11, 288, 9, 107, 912, 953, 914, 2, 43, 913), (11, 288, 2, 16, 912, 939, 914, 2, 43, 913),
  (11, 292, 5, 57, 955, 1364, 1357, 2, 44, 936), (11, 292, 7, 78, 955, 1365, 1357, 2, 44, 936), (11, 292, 0, 4, 955, 1360, 1357, 2, 44, 936), (11, 292, 9, 108, 955, 1366, 1357, 2, 44, 936),
  (11, 292, 2, 108, 955, 1361, 1357, 2, 44, 936)]

def wX (k r : Nat) : MethodName := if k = 1 then absM.getD r ⟨"", "", ""⟩ else mY r
theorem tW_ok : tWl.all (fun e => decide (lw_tbl[e.2.2.2.2.1]? = some (.methodLink (oN e.1) e.2.1 (wX e.2.2.2.2.2.2.2.1 e.2.2.2.2.2.2.2.2.1))) && decide (lw_tbl[e.2.2.2.2.2.1]? = some (.selects (cN e.2.2.1) (wX e.2.2.2.2.2.2.2.1 e.2.2.2.2.2.2.2.2.1) (mY e.2.2.2.1))) && decide (lw_tbl[e.2.2.2.2.2.2.1]? = some (.sameMethod (wX e.2.2.2.2.2.2.2.1 e.2.2.2.2.2.2.2.2.1).cls (wX e.2.2.2.2.2.2.2.1 e.2.2.2.2.2.2.2.2.1).cls (wX e.2.2.2.2.2.2.2.1 e.2.2.2.2.2.2.2.2.1).name (wX e.2.2.2.2.2.2.2.1 e.2.2.2.2.2.2.2.2.1).desc))) = true := by decide +kernel
theorem tW_ok2 : tWl.all (fun e => decide ((parseMethodDescriptor (wX e.2.2.2.2.2.2.2.1 e.2.2.2.2.2.2.2.2.1).desc).map (fun d => d.parameters.length) = some (mP e.2.2.2.1)) && decide ((wX e.2.2.2.2.2.2.2.1 e.2.2.2.2.2.2.2.2.1).cls ≠ "java/lang/invoke/MethodHandle") && decide ((wX e.2.2.2.2.2.2.2.1 e.2.2.2.2.2.2.2.2.1).cls ≠ "java/lang/invoke/VarHandle") && ((e.2.2.2.2.2.2.2.1 == 1 && decide (e.2.2.2.2.2.2.2.2.1 < 3)) || (e.2.2.2.2.2.2.2.1 == 2 && decide (e.2.2.2.2.2.2.2.2.1 < 230) && decide (lw_tbl[e.2.2.2.2.2.2.2.2.2]? = some (.instanceMethod (mY e.2.2.2.2.2.2.2.2.1)))))) = true := by decide +kernel
theorem tV_ok2 : tVl.all (fun e => e.2.2.2.2.2.2.2.2.2.1 == 0 || tWl.any (fun w => w.1 == e.1 && w.2.1 == e.2.1 && w.2.2.1 == e.2.2.2.1 && w.2.2.2.1 == e.2.2.2.2.1)) = true := by decide +kernel
theorem tV_np : tVl.all (fun e => tVl.all (fun f => !(e.1 == f.1) || !(e.2.1 == f.2.1) || e.2.2.1 == f.2.2.1)) = true := by decide +kernel

section W5v
variable {p : Program} {l : Launch} {e : Env} {R : Room} {s : State} {m : MethodId} {args : Array Value} {below : List Frame} {meth : Method} {c : Code} {H : Heap} {locs : List Loc} {cells slots : Nat} {Q : State → Prop} {cc : ByteArray} {b nL pc o : Nat} {ls : Array Slot} {D : va_G} {σ σ' : jS} {A : Nat → Prop} {S S' a : List jV} {m' d : Nat} {r : Option jV}
/-- what a virtual call's row says: the method itself, or one that overrides or inherits -/
theorem tV_use {n ci : Nat} (hX : jX s) (hts : ∀ w ∈ jW, w.before args s = true) (h : tV o n ci = some m') : m' < 230 ∧ ci < 12 ∧ (Cond.instanceMethod (mY m')).before args s = true ∧ (Cond.initialized (mY m').cls).before args s = true ∧
    (((Cond.methodLink (oN o) n (mY m')).before args s = true ∧ (Cond.selects (cN ci) (mY m') (mY m')).before args s = true) ∨
     ∃ x : MethodName, (Cond.methodLink (oN o) n x).before args s = true ∧ (Cond.selects (cN ci) x (mY m')).before args s = true ∧ (Cond.sameMethod x.cls x.cls x.name x.desc).before args s = true ∧ va_Decl s x ∧ x.cls ≠ "java/lang/invoke/MethodHandle" ∧ x.cls ≠ "java/lang/invoke/VarHandle" ∧ (parseMethodDescriptor x.desc).map (fun d => d.parameters.length) = some (mP m')) := by
  obtain ⟨⟨e0, e1, e2, e3, e4, e5, e6, e7, e8, e9, e10, e11⟩, he, h1, h2⟩ := find_mem h
  have h3 := List.all_eq_true.mp tV_ok0 _ he
  have h4 := List.all_eq_true.mp tV_ok1 _ he
  have h5 := List.all_eq_true.mp tV_ok2 _ he
  simp only [Bool.and_eq_true, beq_iff_eq, decide_eq_true_eq, Bool.or_eq_true, Bool.not_eq_true'] at h1 h3 h4 h5
  obtain ⟨⟨rfl, rfl⟩, rfl⟩ := h1
  have h2 : e4 = m' := h2
  subst h2
  refine ⟨h3.1.1.2, h3.2, hts _ (jW_mem h3.1.1.1.1 rfl), hts _ (jW_mem h3.1.1.1.2 rfl), ?_⟩
  rcases h5 with h5 | h5
  · left
    rcases h4 with h4 | h4
    · rw [h5] at h4; cases h4
    · exact ⟨hts _ (jW_mem h4.1.1 rfl), hts _ (jW_mem h4.1.2 rfl)⟩
  · right
    obtain ⟨⟨w0, w1, w2, w3, w4, w5, w6, w7, w8, w9⟩, hw, hq⟩ := List.any_eq_true.mp h5
    have g1 := List.all_eq_true.mp tW_ok _ hw
    have g2 := List.all_eq_true.mp tW_ok2 _ hw
    simp only [Bool.and_eq_true, beq_iff_eq, decide_eq_true_eq, Bool.or_eq_true] at hq g1 g2
    obtain ⟨⟨⟨rfl, rfl⟩, rfl⟩, rfl⟩ := hq
    refine ⟨wX w7 w8, hts _ (jW_mem g1.1.1 rfl), hts _ (jW_mem g1.1.2 rfl), hts _ (jW_mem g1.2 rfl), ?_, g2.1.1.2, g2.1.2, g2.1.1.1⟩
    rcases g2.2 with ⟨k1, k2⟩ | ⟨⟨k1, k2⟩, k3⟩
    · subst k1
      have k4 : wX 1 w8 ∈ absM := by
        rcases (show w8 = 0 ∨ w8 = 1 ∨ w8 = 2 by omega) with rfl | rfl | rfl <;> decide
      exact va_Decl.abs (hX.2.1 _ k4)
    · subst k1
      exact va_Decl.of (hts _ (jW_mem k3 rfl)) (hts _ (mT_code w8 k2))
theorem par_len {y : MethodName} {k : Nat} (h : (parseMethodDescriptor y.desc).map (fun d => d.parameters.length) = some k) : ∀ sig, parseMethodDescriptor y.desc = some sig → k = sig.parameters.length := by
  intro sig hs
  rw [hs] at h
  exact (Option.some.inj h).symm
theorem rev_map {b : Nat} {a r : List jV} : (a.reverse ++ r).map (rv b) = (a.map (rv b)).reverse ++ r.map (rv b) := by simp
set_option maxHeartbeats 1000000 in
theorem w5 {i : Instr} (hx : p.tables.exec = Jvm.exec) (hb : c.code = cc) (hml : c.maxLocals = ls.size) (hts : ∀ w ∈ jW, w.before args s = true) (hown : s.vm.findClass (oN o) = some m.cls) (hd : decode cc pc = .ok (i, 3)) (hR : jR D b σ s H) (hS : va_S A s.heap H locs) (hN : σ.1 = true → s.heap.size + cells = b + σ.2.1 ∧ 0 < σ.2.1) (hf : d + 2 ≤ R.frames) (hlo : 100 * (d + 2) ≤ R.locals) (hc : cells + (σ'.2.1 - σ.2.1) ≤ R.cells) (hs : slots + (σ'.2.2.1 - σ.2.2.1) ≤ R.slots)
    (h : s5 o i S σ = some (m', a, S')) (hM : m' < 230 → jMet l D b A d m' a σ r σ')
    (hup : ∀ n, tS o n = some m' → (Cond.methodLink (oN o) n ⟨oN o, (mY m').name, (mY m').desc⟩).before args s = true → (Cond.sameMethod (oN o) (mY m').cls (mY m').name (mY m').desc).before args s = true → decode cc pc = .ok (.invokestatic n, 3) → a.length = mP m' → S = a.reverse ++ S' → szS S' ≤ 8 → (σ.1 = true → H.size = b + σ.2.1) → va_Run p l e R s m args below meth c H locs cells slots (σ'.2.1 - σ.2.1) (σ'.2.2.1 - σ.2.2.1) (F0 m pc ls (S.map (rv b))) (S'.map (rv b)) (jQ D b r σ' A (a.map (rv b)).toArray) A)
    (kk : ∀ (H1 : Heap) (locs1 : List Loc), jR D b σ' s H1 → va_S A s.heap H1 locs1 → W p l e R s m args below meth c H1 locs1 (cells + (σ'.2.1 - σ.2.1)) (slots + (σ'.2.2.1 - σ.2.2.1)) Q (F0 m (pc + 3) ls ((r.toList ++ S').map (rv b)))) : W p l e R s m args below meth c H locs cells slots Q (F0 m pc ls (S.map (rv b))) := by
  refine w_size hR hN (fun hz => ?_)
  cases i
  case invokestatic n =>
    unfold s5 at h
    dsimp only at h
    obtain ⟨m1, h1, h⟩ := Option.bind_eq_some_iff.mp h
    obtain ⟨⟨a1, r1⟩, h2, h⟩ := Option.bind_eq_some_iff.mp h
    dsimp only at h
    split at h <;> cases h
    rename_i h3
    obtain ⟨e1, e2⟩ := popN_eq h2
    obtain ⟨g1, g2, g3, g4⟩ := tS_use hts h1
    rcases g4 with g4 | ⟨g4, g5⟩
    · refine w_back (Ar := (a.map (rv b)).toArray) hR hS ?_ kk
      exact va_runS (As := a.map (rv b)) (rest := S'.map (rv b)) ⟨hx, hb, hml, hown, hts⟩ (hM g1) ⟨callB hts g1 g3 g4 hf hlo, g2⟩ ⟨jP_blind, pre_of hR hz⟩ rfl (by simp [e2]) rfl (by rw [e1]; exact rev_map) (lv_room (by rw [sz_rv]; exact h3)) hd ⟨hc, hs⟩
    · exact w_back hR hS (hup n h1 g4 g5 hd e2 e1 h3 hz) kk
  case invokespecial n =>
    unfold s5 at h
    dsimp only at h
    split at h
    · rename_i m1 hm1
      obtain ⟨⟨a1, r1⟩, h2, h⟩ := Option.bind_eq_some_iff.mp h
      obtain ⟨e1, e2⟩ := popN_eq h2
      dsimp only at h
      split at h
      · rename_i k0 r0
        split at h <;> cases h
        rename_i h3
        simp only [Bool.and_eq_true, decide_eq_true_eq] at h3
        have hst : S.map (rv b) = (a1.map (rv b)).reverse ++ .ref (b + k0) :: S'.map (rv b) := by rw [e1]; simp [rv]
        refine w_back (Ar := (Value.ref (b + k0) :: a1.map (rv b)).toArray) hR hS ?_ kk
        cases hI : tI o n with
        | some m2 =>
          rw [hI] at hm1
          cases hm1
          obtain ⟨g1, g2, g3, g4, g5, g6⟩ := tI_use hts hI
          have hcb := callB (R := R) (s := s) (args := args) (mc := σ'.2.1 - σ.2.1) (ms := σ'.2.2.1 - σ.2.2.1) hts g1 g4 g2 hf hlo
          rw [g6] at hcb
          exact va_runI (As := a1.map (rv b)) (rest := S'.map (rv b)) ⟨hx, hb, hml, hown, hts⟩ (hM g1) ⟨hcb, g5, g3⟩ ⟨jP_blind, pre_of (a := .inr (.inr (some k0)) :: a1) hR hz⟩ rfl (by simp [e2]) rfl hst (lv_room (by rw [sz_rv]; exact h3.1.1)) hd ⟨hc, hs⟩
        | none =>
          rw [hI] at hm1
          cases hJ : tJ o n with
          | some m2 =>
            rw [hJ] at hm1
            cases hm1
            obtain ⟨g1, g2, g3, g4, g5, g6⟩ := tJ_use hR.x hts hJ
            obtain ⟨-, -, -, k1, k2, k3, k4⟩ := mT_cls g1
            have hcn : va_CN R s args (oN o) n (mY m') RX11 (mB m') (mL m') (mR m') (jws m') (jRM d (σ'.2.1 - σ.2.1) (σ'.2.2.1 - σ.2.2.1)) (σ'.2.1 - σ.2.1) (σ'.2.2.1 - σ.2.2.1) (mP m') := va_cnB _ hts (jGood g1) rfl rfl rfl g2 g4 ⟨k1, k2, k3⟩ ⟨hf, by show 8 + (mL m' + 11) + 100 * (d + 1) ≤ _; omega⟩
            rw [g6] at hcn
            exact va_runIN (As := a1.map (rv b)) (rest := S'.map (rv b)) ⟨hx, hb, hml, hown, hts⟩ (hM g1) ⟨hcn, g5, g3⟩ ⟨jP_blind, pre_of (a := .inr (.inr (some k0)) :: a1) hR hz⟩ rfl (by simp [e2]) rfl hst (lv_room (by rw [sz_rv]; exact h3.1.1)) hd ⟨hc, hs⟩
          | none =>
            rw [hJ] at hm1
            have hP : tP o n = some m' := hm1
            obtain ⟨g1, g2, g3, g4, g5, g6, g7⟩ := tP_use hts hP
            obtain ⟨-, -, -, -, -, k3, k4⟩ := mT_cls g1
            have hcs : va_CS R s args (oN o) n (mY m') (mB m') (mL m') (mR m') (jws m') (jRM d (σ'.2.1 - σ.2.1) (σ'.2.2.1 - σ.2.2.1)) (σ'.2.1 - σ.2.1) (σ'.2.2.1 - σ.2.2.1) (mP m') :=
              ⟨⟨rfl, rfl, hf, by show 8 + (mL m' + 11) + 100 * (d + 1) ≤ _; omega, pay_in hts (jGood g1), List.mem_cons_self⟩, g2, g5, g6, g3, g4, hts _ (mT_code m' g1), g7, par_len k3⟩
            have hsk : σ.2.2.2.1 k0 = ((σ.2.2.2.1 k0).1, 0) := by
              obtain ⟨ac, tys, hK, hT, hP, hX⟩ := hR
              rcases hT k0 h3.1.2 with ⟨-, z⟩ | ⟨z, -⟩
              · rw [← z]
              · have := h3.2; omega
            have hrec : ∃ cellB : Cell, H[b + k0]? = some cellB ∧ cellB.vm.isStatics = false ∧ s.vm.findClass (cN (σ.2.2.2.1 k0).1) = some cellB.cls := by
              obtain ⟨ac, tys, hK, hT, hP, hX⟩ := hR
              exact va_recv hK hP (ci := (σ.2.2.2.1 k0).1) (q0 := k0) (cl_at h3.2) (by rw [wld_at h3.1.2, wE_obj hsk h3.2])
            have hat : ClassAt s (cN (σ.2.2.2.1 k0).1) (D.1 (σ.2.2.2.1 k0).1) := by
              obtain ⟨ac, tys, hK, hT, hP, hX⟩ := hR
              exact (hK.1 _ _ (cl_at h3.2)).2
            exact va_runSU (As := a1.map (rv b)) (rest := S'.map (rv b)) hat ⟨hx, hb, hml, hown, hts⟩ (hM g1) hcs ⟨jP_blind, hrec, pre_of (a := .inr (.inr (some k0)) :: a1) hR hz⟩ rfl (by simp [e2]) rfl hst (lv_room (by rw [sz_rv]; exact h3.1.1)) hd ⟨hc, hs⟩
      · cases h
    · cases h
  case invokevirtual n =>
    unfold s5 at h
    dsimp only at h
    obtain ⟨np, h1, h⟩ := Option.bind_eq_some_iff.mp h
    obtain ⟨⟨a1, r1⟩, h2, h⟩ := Option.bind_eq_some_iff.mp h
    obtain ⟨e1, e2⟩ := popN_eq h2
    dsimp only at h
    split at h
    · rename_i k0 r0
      split at h
      · rename_i h3
        simp only [Bool.and_eq_true, decide_eq_true_eq] at h3
        obtain ⟨m2, h4, e3⟩ := Option.map_eq_some_iff.mp h
        cases e3
        have hst : S.map (rv b) = (a1.map (rv b)).reverse ++ .ref (b + k0) :: S'.map (rv b) := by rw [e1]; simp [rv]
        obtain ⟨g1, g2, g3, g4, g5⟩ := tV_use hR.x hts h4
        have hnp : np = mP m' := by
          obtain ⟨f1, hf1, q1, q2⟩ := find_mem h1
          obtain ⟨f2, hf2, q3, q4⟩ := find_mem h4
          have q5 := List.all_eq_true.mp (List.all_eq_true.mp tV_np f1 hf1) f2 hf2
          have q6 := List.all_eq_true.mp tV_ok0 f2 hf2
          simp only [Bool.and_eq_true, beq_iff_eq, decide_eq_true_eq, Bool.or_eq_true, Bool.not_eq_true'] at q1 q3 q5 q6
          rw [q1.1, q1.2, q3.1.1, q3.1.2] at q5
          simp at q5
          rw [← q2, q5, ← q4]
          exact q6.1.2.symm
        subst hnp
        have hrec : ∃ cellB : Cell, H[b + k0]? = some cellB ∧ cellB.vm.isStatics = false ∧ s.vm.findClass (cN (σ.2.2.2.1 k0).1) = some cellB.cls := by
          obtain ⟨ac, tys, hK, hT, hP, hX⟩ := hR
          have hsk : σ.2.2.2.1 k0 = ((σ.2.2.2.1 k0).1, 0) := by rw [← h3.2]
          exact va_recv hK hP (ci := (σ.2.2.2.1 k0).1) (q0 := k0) (cl_at g2) (by rw [wld_at h3.1.2, wE_obj hsk g2])
        refine w_back (Ar := (Value.ref (b + k0) :: a1.map (rv b)).toArray) hR hS ?_ kk
        rcases g5 with ⟨g5, g6⟩ | ⟨x, g5, g6, g7, g8, g9, g10, g11⟩
        · exact va_runV (As := a1.map (rv b)) (rest := S'.map (rv b)) ⟨hx, hb, hml, hown, hts⟩ (hM g1) ⟨callB hts g1 g4 g5 hf hlo, g3, g6⟩ ⟨jP_blind, hrec, pre_of (a := .inr (.inr (some k0)) :: a1) hR hz⟩ rfl (by simp [e2]) rfl hst (lv_room (by rw [sz_rv]; exact h3.1.1)) hd ⟨hc, hs⟩
        · obtain ⟨-, -, -, -, -, k3, k4⟩ := mT_cls g1
          have hcu : va_CU R s args (oN o) (cN (σ.2.2.2.1 k0).1) x.cls n x (mY m') (mB m') (mL m') (mR m') (jws m') (jRM d (σ'.2.1 - σ.2.1) (σ'.2.2.1 - σ.2.2.1)) (σ'.2.1 - σ.2.1) (σ'.2.2.1 - σ.2.2.1) (mP m') :=
            ⟨⟨rfl, rfl, hf, by show 8 + (mL m' + 11) + 100 * (d + 1) ≤ _; omega, pay_in hts (jGood g1), List.mem_cons_self⟩, hts _ (mT_code m' g1), g4, ⟨g9, g10⟩, par_len g11, g5, g7, g8, g6, g3⟩
          exact va_runU (As := a1.map (rv b)) (rest := S'.map (rv b)) ⟨hx, hb, hml, hown, hts⟩ (hM g1) hcu ⟨jP_blind, hrec, pre_of (a := .inr (.inr (some k0)) :: a1) hR hz⟩ rfl (by simp [e2]) rfl hst (lv_room (by rw [sz_rv]; exact h3.1.1)) hd ⟨hc, hs⟩
      · cases h
    · cases h
  all_goals (unfold s5 at h; cases h)
end W5v
end
section
/-! THE SMALL MACHINE'S RUNS ARE THE REAL ONE'S -/
theorem s2_mono {o : Nat} {init : Bool} {i : Instr} {S S' : List jV} {σ σ' : jS} (h : s2 o init i S σ = some (S', σ')) : σ.2.1 ≤ σ'.2.1 ∧ σ.2.2.1 ≤ σ'.2.2.1 ∧ σ'.1 = σ.1 := by
  cases i
  case new n =>
    unfold s2 at h
    dsimp only at h
    obtain ⟨ci, ht, h⟩ := Option.bind_eq_some_iff.mp h
    split at h <;> cases h
    rename_i hc1
    simp only [Bool.and_eq_true] at hc1
    exact ⟨Nat.le_add_right _ _, Nat.le_add_right _ _, hc1.1.symm⟩
  case newarray t =>
    unfold s2 at h
    dsimp only at h
    split at h
    · split at h <;> cases h
      rename_i hc1
      simp only [Bool.and_eq_true] at hc1
      exact ⟨Nat.le_add_right _ _, Nat.le_add_right _ _, hc1.1.1.1.1.symm⟩
    · cases h
  case anewarray n =>
    unfold s2 at h
    dsimp only at h
    split at h
    · split at h <;> cases h
      rename_i hc1
      simp only [Bool.and_eq_true] at hc1
      exact ⟨Nat.le_add_right _ _, Nat.le_add_right _ _, hc1.1.1.1.symm⟩
    · cases h
  case instanceof n =>
    unfold s2 at h
    dsimp only at h
    split at h
    · split at h
      · obtain ⟨r, hr, e1⟩ := Option.map_eq_some_iff.mp h
        cases e1
        exact ⟨Nat.le_refl _, Nat.le_refl _, rfl⟩
      · cases h
    · cases h
  all_goals (unfold s2 at h; dsimp only at h; repeat' (first | cases h | split at h))
  all_goals exact ⟨Nat.le_refl _, Nat.le_refl _, rfl⟩
theorem run_mono : ∀ (f d m pc : Nat) (L : jL) (S : List jV) (σ : jS) (r : Option jV) (σ' : jS), run f d m pc L S σ = some (r, σ') → σ.2.1 ≤ σ'.2.1 ∧ σ.2.2.1 ≤ σ'.2.2.1 ∧ σ'.1 = σ.1 := by
  intro f
  induction f with
  | zero => intro d m pc L S σ r σ' h; simp [run] at h
  | succ f ih =>
    intro d m pc L S σ r σ' h
    unfold run at h
    split at h <;> try (cases h; done)
    split at h
    · split at h
      · exact ih _ _ _ _ _ _ _ _ h
      · split at h
        · rename_i h2
          obtain ⟨a1, a2, a3⟩ := s2_mono h2
          obtain ⟨b1, b2, b3⟩ := ih _ _ _ _ _ _ _ _ h
          exact ⟨Nat.le_trans a1 b1, Nat.le_trans a2 b2, b3.trans a3⟩
        · split at h
          · exact ih _ _ _ _ _ _ _ _ h
          · split at h
            · cases h; exact ⟨Nat.le_refl _, Nat.le_refl _, rfl⟩
            · split at h
              · split at h
                · cases h
                · split at h
                  · rename_i h6
                    split at h6
                    · obtain ⟨a1, a2, a3⟩ := ih _ _ _ _ _ _ _ _ h6
                      obtain ⟨b1, b2, b3⟩ := ih _ _ _ _ _ _ _ _ h
                      exact ⟨Nat.le_trans a1 b1, Nat.le_trans a2 b2, b3.trans a3⟩
                    · cases h6
                  · cases h
              · cases h
    · cases h
theorem sz_cons (v : jV) (a : List jV) : szS (v :: a) = (if isL v then 2 else 1) + szS a := by simp [szS]
theorem lgl_len (b : Nat) : ∀ a : List jV, (lg_sl (a.map (rv b))).length = szS a := by
  intro a
  induction a with
  | nil => rfl
  | cons v a ih =>
    rw [sz_cons, ← ih]
    rcases v with z | z | (_ | k) <;> simp [lg_sl, rv, isL, Value.category] <;> omega
theorem flat_len : ∀ a : List jV, (a.flatMap (fun v => if isL v then [some v, none] else [some v])).length = szS a := by
  intro a
  induction a with
  | nil => rfl
  | cons v a ih =>
    rw [List.flatMap_cons, List.length_append, ih, sz_cons]
    split <;> rfl
theorem lget_z {x : Option jV} {l : jL} : lget (x :: l) 0 = x := by cases x <;> rfl
theorem lget_s {x : Option jV} {l : jL} {i : Nat} : lget (x :: l) (i + 1) = lget l i := by simp [lget]
theorem lget_none {n i : Nat} {v : jV} : lget (List.replicate n none) i = some v → False := by
  intro h
  unfold lget at h
  rw [List.getElem?_replicate] at h
  split at h <;> cases h
theorem ini_get (b : Nat) : ∀ (a : List jV) (n i j : Nat) (v : jV), lget (a.flatMap (fun v => if isL v then [some v, none] else [some v]) ++ List.replicate n none) i = some v → (j + i, rv b v) ∈ lv_args j (a.map (rv b)) := by
  intro a
  induction a with
  | nil => intro n i j v h; exact absurd h (fun h => lget_none h)
  | cons w a ih =>
    intro n i j v h
    rw [List.flatMap_cons, List.append_assoc] at h
    rw [List.map_cons]
    unfold lv_args
    rw [rv_cat]
    cases hw : isL w
    · rw [hw] at h
      cases i with
      | zero => cases lget_z.symm.trans h; exact List.mem_cons_self
      | succ i =>
        have h : lget _ (i + 1) = some v := h
        rw [if_neg (by decide)] at h
        have h3 := ih n i (j + 1) v (lget_s.symm.trans h)
        rw [show j + 1 + i = j + (i + 1) by omega] at h3
        exact List.mem_cons_of_mem _ h3
    · rw [hw] at h
      rw [if_pos rfl] at h
      cases i with
      | zero => cases lget_z.symm.trans h; exact List.mem_cons_self
      | succ i =>
        have h := lget_s.symm.trans h
        cases i with
        | zero => cases lget_z.symm.trans h
        | succ i =>
          have h3 := ih n i (j + 2) v (lget_s.symm.trans h)
          rw [show j + 2 + i = j + (i + 1 + 1) by omega] at h3
          exact List.mem_cons_of_mem _ h3
theorem ini_ls {b n : Nat} {a : List jV} {ls : Array Slot} (hz : szS a ≤ n) (hl : lv_has ls n (lv_args 0 (a.map (rv b)))) : jLs b n ls (iniL n a) := by
  refine ⟨?_, hl.1, hl.2.1, fun i v hv => ?_⟩
  · unfold iniL
    rw [List.length_append, List.length_replicate, flat_len]
    omega
  · have h := ini_get b a _ i 0 v hv
    rw [Nat.zero_add] at h
    exact hl.2.2 _ h
section SND
variable {p : Program} {l : Launch} {e : Env} {s : State} {mi : MethodId} {args : Array Value} {below : List Frame} {meth : Method} {c : Code} {D : va_G} {b : Nat} {A : Nat → Prop} {m d mc ms : Nat} {r : Option jV} {σ' : jS}
/-- what is to be shown of a call of a static method that its class inherits (below) -/
def upOk (l : Launch) : Prop := ∀ {p : Program} {e : Env} {R : Room} {s : State} {m : MethodId} {args : Array Value} {below : List Frame} {meth : Method} {c : Code} {H : Heap} {locs : List Loc} {cells slots : Nat} {cc : ByteArray} {pc o n d m' mc ms : Nat} {ls : Array Slot} {As rest : List Value} {Pc : Array Value → State → Prop} {Qc : Array Value → State → Outcome → State → Prop} {free : Addr → Prop},
  p.tables.exec = Jvm.exec → c.code = cc → c.maxLocals = ls.size → (∀ w ∈ jW, w.before args s = true) → s.vm.findClass (oN o) = some m.cls → decode cc pc = .ok (.invokestatic n, 3) → d + 2 ≤ R.frames → 100 * (d + 2) ≤ R.locals → cells + mc ≤ R.cells → slots + ms ≤ R.slots → m' < 230 →
  (Cond.methodLink (oN o) n ⟨oN o, (mY m').name, (mY m').desc⟩).before args s = true → (Cond.sameMethod (oN o) (mY m').cls (mY m').name (mY m').desc).before args s = true → (Cond.static (mY m')).before args s = true → (Cond.initialized (mY m').cls).before args s = true →
  Met l (mY m') (jws m') (jRM d mc ms) Pc Qc mc ms free → PreS s H Pc As → As.length = mP m' → (rest.map fun v => v.category).sum ≤ 8 →
  va_Run p l e R s m args below meth c H locs cells slots mc ms (F0 m pc ls (As.reverse ++ rest)) rest (Qc As.toArray) free
set_option maxHeartbeats 1000000 in
theorem soundF (hu : upOk l) (hx : p.tables.exec = Jvm.exec) (hb : c.code = mB m) (hml : c.maxLocals = mL m) (hr : meth.sig.returnType = mR m) (hlocks : meth.locks = false) (hts : ∀ w ∈ jW, w.before args s = true) (hown : s.vm.findClass (oN (mO m)) = some mi.cls) (hin : isInit m = true → meth.name = "<init>")
    (hA : ∀ k, k < σ'.2.1 → A (b + k))
    (hC : ∀ d', d = d' + 1 → ∀ (m' : Nat) (a : List jV) (σ : jS) (r : Option jV) (σ' : jS), m' < 230 → szS a ≤ mL m' → (∃ f, run f d' m' 0 (iniL (mL m') a) [] σ = some (r, σ')) → (∀ k, k < σ'.2.1 → A (b + k)) → (σ.1 = true → 0 < σ.2.1) → jMet l D b A d' m' a σ r σ') :
    ∀ (f pc : Nat) (L : jL) (S : List jV) (σ : jS), run f d m pc L S σ = some (r, σ') → ∀ (ls : Array Slot) (H : Heap) (locs : List Loc) (cells slots : Nat), jLs b (mL m) ls L → jR D b σ s H → va_S A s.heap H locs → (σ.1 = true → s.heap.size + cells = b + σ.2.1 ∧ 0 < σ.2.1) → cells + (σ'.2.1 - σ.2.1) = mc → slots + (σ'.2.2.1 - σ.2.2.1) = ms →
      W p l e (jRM d mc ms) s mi args below meth c H locs cells slots (MQ below (jQ D b r σ' A) args s mc ms A) (F0 mi pc ls (S.map (rv b))) := by
  intro f
  induction f with
  | zero => intro pc L S σ h; simp [run] at h
  | succ f ih =>
    intro pc L S σ h ls H locs cells slots hl hR hS hN hmc hms
    have hmono := run_mono _ _ _ _ _ _ _ _ _ h
    have hml2 : c.maxLocals = ls.size := by rw [hml, hl.2.1]
    have hfr : 1 ≤ (jRM d mc ms).frames := Nat.le_add_left 1 d
    have hlo : 100 ≤ (jRM d mc ms).locals := by show 100 ≤ 100 * (d + 1); omega
    unfold run at h
    split at h <;> try (cases h; done)
    rename_i i len hd
    split at h
    case isFalse => cases h
    rename_i hlen
    cases h1 : s1 (mO m) i L S with
    | some q =>
      obtain ⟨L1, S1⟩ := q
      rw [h1] at h
      dsimp only at h
      have hlen2 : len = ilen i := by
        unfold lenOk at hlen
        split at hlen
        · cases h1
        · cases h1
        · exact beq_iff_eq.mp hlen
      subst hlen2
      exact w1 hx hb hts hown hd hl h1 (fun ls' hl' => ih _ _ _ _ h ls' H locs cells slots hl' hR hS hN hmc hms)
    | none =>
      rw [h1] at h
      dsimp only at h
      cases h2 : s2 (mO m) (isInit m) i S σ with
      | some q =>
        obtain ⟨S1, σ1⟩ := q
        rw [h2] at h
        dsimp only at h
        have hlen2 : len = ilen i := by
          unfold lenOk at hlen
          split at hlen
          · cases h2
          · cases h2
          · exact beq_iff_eq.mp hlen
        subst hlen2
        obtain ⟨a1, a2, a3⟩ := s2_mono h2
        obtain ⟨b1, b2, b3⟩ := run_mono _ _ _ _ _ _ _ _ _ h
        refine w2 hx hb hml2 hts hown hd hin hR hS (fun k hk => hA k (by omega)) (fun ho => (hN ho).1) hfr hlo ?_ ?_ h2 (fun H1 locs1 c1 s1 g1 g2 g3 g4 g5 => ih _ _ _ _ h ls H1 locs1 c1 s1 hl g1 g2 (fun ho => ?_) ?_ ?_)
        · show _ ≤ mc; omega
        · show _ ≤ ms; omega
        · have := hN (g3.symm.trans ho)
          omega
        · omega
        · omega
      | none =>
        rw [h2] at h
        dsimp only at h
        cases h3 : s3 i pc len S with
        | some q =>
          obtain ⟨pc1, S1⟩ := q
          rw [h3] at h
          dsimp only at h
          exact w3 hx hb hd hlen h3 (ih _ _ _ _ h ls H locs cells slots hl hR hS hN hmc hms)
        | none =>
          rw [h3] at h
          dsimp only at h
          cases h4 : s4 (mR m) i S with
          | some q =>
            rw [h4] at h
            cases h
            have e1 : mc = cells := by omega
            have e2 : ms = slots := by omega
            subst e1; subst e2
            have hq : ∀ (v : Option Value), v = r.map (rv b) → ∀ t : State, t.heap = H → s.WarmedH t.vm → jQ D b r σ' A args s (.returned v) t := fun v hv t ht hW => ⟨by rw [hv], by rw [ht]; exact hR.warm hW, hS.F ht⟩
            cases i
            case ireturn =>
              have hlen : (len == 1) = true := hlen
              rw [beq_iff_eq] at hlen
              subst hlen
              unfold s4 at h4
              dsimp only at h4
              split at h4
              · rename_i x hrt
                cases h4
                rw [hrt] at hr
                exact W.zret hx hb hr rfl (hq _ rfl) hS.2.2 hd hlocks
              · rename_i x hrt
                split at h4 <;> cases h4
                rename_i hz
                simp only [Bool.or_eq_true, decide_eq_true_eq] at hz
                rw [hrt] at hr
                exact W.zret hx hb hr (by rcases hz with rfl | rfl <;> decide) (hq _ rfl) hS.2.2 hd hlocks
              · cases h4
            case areturn =>
              have hlen : (len == 1) = true := hlen
              rw [beq_iff_eq] at hlen
              subst hlen
              unfold s4 at h4
              dsimp only at h4
              split at h4
              · rename_i x nn hrt
                cases h4
                rw [hrt] at hr
                exact W.aret hx hb hr (Or.inl ⟨_, rfl⟩) (Or.inr ⟨_, rfl⟩) (hq _ rfl) hS.2.2 hd hlocks
              · cases h4
            case return_ =>
              have hlen : (len == 1) = true := hlen
              rw [beq_iff_eq] at hlen
              subst hlen
              unfold s4 at h4
              dsimp only at h4
              split at h4
              · rename_i hrt
                cases h4
                rw [hrt] at hr
                exact W.vret hx hb hr (hq _ rfl) hS.2.2 hd hlocks
              · cases h4
            all_goals (unfold s4 at h4; cases h4)
          | none =>
            rw [h4] at h
            dsimp only at h
            cases h5 : s5 (mO m) i S σ with
            | none => rw [h5] at h; cases h
            | some q =>
              obtain ⟨m', a, S1⟩ := q
              rw [h5] at h
              dsimp only at h
              cases d with
              | zero => cases h
              | succ d =>
                dsimp only at h
                by_cases hz : szS a ≤ mL m'
                case neg => rw [if_neg hz] at h; cases h
                rw [if_pos hz] at h
                cases h6 : run f d m' 0 (iniL (mL m') a) [] σ with
                | none => rw [h6] at h; cases h
                | some q =>
                  obtain ⟨r1, σ1⟩ := q
                  rw [h6] at h
                  dsimp only at h
                  obtain ⟨a1, a2, a3⟩ := run_mono _ _ _ _ _ _ _ _ _ h6
                  obtain ⟨b1, b2, b3⟩ := run_mono _ _ _ _ _ _ _ _ _ h
                  have hlen2 : len = 3 := by
                    cases i <;> first | (unfold s5 at h5; cases h5; done) | exact beq_iff_eq.mp hlen
                  subst hlen2
                  have hM : m' < 230 → jMet l D b A d m' a σ r1 σ1 := fun hm' => hC d rfl m' a σ r1 σ1 hm' hz ⟨f, h6⟩ (fun k hk => hA k (by omega)) (fun ho => (hN ho).2)
                  refine w5 (d := d) (r := r1) (σ' := σ1) hx hb hml2 hts hown hd hR hS hN (Nat.le_refl _) (Nat.le_refl _) (by show _ ≤ mc; omega) (by show _ ≤ ms; omega) h5 hM ?_ (fun H1 locs1 g1 g2 => ih _ _ _ _ h ls H1 locs1 _ _ hl g1 g2 (fun ho => ?_) ?_ ?_)
                  · intro n g1 g2 g3 g4 g5 g6 g7 g8
                    obtain ⟨k1, k2, k3, -⟩ := tS_use hts g1
                    have := hu (As := a.map (rv b)) (rest := S1.map (rv b)) (R := jRM (d + 1) mc ms) (H := H) (locs := locs) (cells := cells) (slots := slots) (below := below) (meth := meth) (e := e) hx hb hml2 hts hown g4 (Nat.le_refl _) (Nat.le_refl _) (by show _ ≤ mc; omega) (by show _ ≤ ms; omega) k1 g2 g3 k2 k3 (hM k1) ⟨jP_blind, pre_of hR g8⟩ (by rw [List.length_map]; exact g5) (by rw [sz_rv]; exact g7)
                    rw [g6, rev_map]
                    exact this
                  · have := hN (a3.symm.trans ho)
                    omega
                  · omega
                  · omega
theorem sound1 (hu : upOk l) (d : Nat) (hC : ∀ d', d = d' + 1 → ∀ (m' : Nat) (a : List jV) (σ : jS) (r : Option jV) (σ' : jS), m' < 230 → szS a ≤ mL m' → (∃ f, run f d' m' 0 (iniL (mL m') a) [] σ = some (r, σ')) → (∀ k, k < σ'.2.1 → A (b + k)) → (σ.1 = true → 0 < σ.2.1) → jMet l D b A d' m' a σ r σ')
    (m : Nat) (a : List jV) (σ : jS) (r : Option jV) (σ' : jS) (hm : m < 230) (hz : szS a ≤ mL m) (hf : ∃ f, run f d m 0 (iniL (mL m) a) [] σ = some (r, σ')) (hA : ∀ k, k < σ'.2.1 → A (b + k)) (hpos : σ.1 = true → 0 < σ.2.1) : jMet l D b A d m a σ r σ' := by
  obtain ⟨f, hf⟩ := hf
  refine Met.ofW (cc := mB m) (maxL := mL m) (ret := mR m) (mT_cls hm).2.2.1 rfl ?_
  intro p e s mi args below meth c s₁ B hml hv
  obtain ⟨rfl, hR, hsz⟩ := hv
  have hts0 := atoms_spec (ws := jws m) B.pre
  have hts : ∀ w ∈ jW, w.before ((a.map (rv b)).toArray) s = true := fun w hw => hts0 w (List.mem_cons_of_mem _ hw)
  have hown : s.vm.findClass (oN (mO m)) = some mi.cls := by rw [← (mT_cls hm).1]; exact findClass_of_methodNamed B.named
  have hin : isInit m = true → meth.name = "<init>" := fun h => (name_of_methodNamed B.named B.method).1.trans (beq_iff_eq.mp h)
  have hl := lv_entry (a.map (rv b)) (n := mL m) (by rw [lgl_len]; exact hz)
  rw [lg_entry_eq]
  generalize (lg_sl (a.map (rv b)) ++ List.replicate (mL m - (lg_sl (a.map (rv b))).length) Slot.unset).toArray = ls at hl ⊢
  exact soundF hu B.exec B.bytes hml B.returns B.notSynchronized hts hown hin hA hC f 0 _ [] σ hf ls s.heap [] 0 0 (ini_ls hz hl) hR va_S.rf (fun ho => ⟨by rw [hsz ho]; rfl, hpos ho⟩) (Nat.zero_add _) (Nat.zero_add _)
theorem sound (hu : upOk l) : ∀ (d m : Nat) (a : List jV) (σ : jS) (r : Option jV) (σ' : jS), m < 230 → szS a ≤ mL m → (∃ f, run f d m 0 (iniL (mL m) a) [] σ = some (r, σ')) → (∀ k, k < σ'.2.1 → A (b + k)) → (σ.1 = true → 0 < σ.2.1) → jMet l D b A d m a σ r σ' := by
  intro d
  induction d with
  | zero => exact sound1 hu 0 (fun d' h => by cases h)
  | succ d ihd => exact sound1 hu (d + 1) (fun d' h => by cases h; exact ihd)
end SND
end
section
/-! a static method that a class inherits: its entry is resolved at the named class, the method is its superclass's -/
section UP
variable {p : Program} {l : Launch} {e : Env} {R : Room} {s : State} {m : MethodId} {args : Array Value} {below : List Frame} {meth : Method} {c : Code} {T : State} {locs : List Loc} {cells slots : Nat}
theorem sup_warm {Q : Unit → Pre} {E : CtlPost} {d : Bool} {acts : List Action} {U U₀ : State} {f : JFrame} {ix ci nt cn : Nat} {mk : MethodId} {dk ck : Class} {cf : ClassFile} {nm ds : String}
    (htop : U.topJava?.isSome) (hpv : e.platform.polymorphicOnlyByInvokevirtual = true) (hW : U₀.WarmedH U.vm) (hE : U₀.MethodEntryUp e U.vm f.method.cls ix cn mk ci) (hdk : U₀.vm.classes[f.method.cls]? = some dk) (hcf : dk.cf = some cf)
    (hcp : cf.constantPool[ix]? = some (if false then .interfaceMethodref ci nt else .methodref ci nt)) (hnt : cf.constantPool.nameAndType? nt = some (nm, ds)) (hck : U₀.vm.classes[cn]? = some ck) (hno : (ck.methods.any fun y => y.name == nm && !y.isStatic && signaturePolymorphic ck y) = false) :
    wp (invokestatic.sem ix) Q E e d acts (U.setTop f) ↔ wp (invokestatic.sem ix) Q E e d acts ((U.setVm (U.vm.calledUp f.method.cls ci ix cn mk)).setTop f) := by
  obtain ⟨gc, -, w1, gm⟩ := hE.classFirst
  have look : ∀ {vm : Vm}, U₀.WarmedH vm → (∃ k, vm.classes[f.method.cls]? = some k ∧ k.cf = some cf) ∧ ∃ k, vm.classes[cn]? = some k ∧ (k.methods.any fun y => y.name == nm && !y.isStatic && signaturePolymorphic k y) = false := by
    intro vm w
    obtain ⟨k, hk, ek⟩ := w.alike.2.2 _ _ hdk
    obtain ⟨k', hk', ek'⟩ := w.alike.2.2 _ _ hck
    exact ⟨⟨k, hk, by rw [ek]; exact hcf⟩, k', hk', by rw [ek']; exact hno⟩
  obtain ⟨⟨ka, hka, fa⟩, -⟩ := look hW
  obtain ⟨-, kb, hkb, nb⟩ := look w1
  obtain ⟨⟨kd, hkd, fd⟩, kq, hkq, nq⟩ := look hE.warmed
  have ra := memberRef_ask_via (e := e) hka fa hcp hnt
  have rd := memberRef_ask_via (e := e) hkd fd hcp hnt
  have t1 := State.method?_setTop (s := U) f htop
  have t2 := State.method?_setTop (s := U.setVm (U.vm.noted f.method.cls ci (.cls cn))) f htop
  have t3 := State.method?_setTop (s := U.setVm (U.vm.calledUp f.method.cls ci ix cn mk)) f htop
  have stC : ∀ {Q' : ClassId → Pre} {d' : Bool} {acts' : List Action}, wp (Jvm.resolveClassAt ci) Q' E e d' acts' (U.setTop f) ↔ Q' cn d' acts' ((U.setVm (U.vm.noted f.method.cls ci (.cls cn))).setTop f) := W.resolveClassAt_links (t := U.setTop f) t1 gc
  have stM : ∀ {Q' : MethodId → Pre} {d' : Bool} {acts' : List Action}, wp (Jvm.resolveMethodAt ix) Q' E e d' acts' ((U.setVm (U.vm.noted f.method.cls ci (.cls cn))).setTop f) ↔ Q' mk d' acts' ((U.setVm (U.vm.calledUp f.method.cls ci ix cn mk)).setTop f) := W.resolveMethodAt_links (t := (U.setVm (U.vm.noted f.method.cls ci (.cls cn))).setTop f) t2 gm
  simp [invokestatic.sem, hpv, Seam.memberRefOf, t1, t3, ra, rd, stC, stM, W.resolveClassAt_ready (s := (U.setVm (U.vm.calledUp f.method.cls ci ix cn mk)).setTop f) t3 hE.classReady, W.resolveMethodAt_ready (s := (U.setVm (U.vm.calledUp f.method.cls ci ix cn mk)).setTop f) t3 hE.ready, hkb, hkq, nb, nq, -Array.any_eq_true]
theorem sup_step (X : Stand p l e R s m args below meth c T locs cells slots) (hexec : p.tables.exec = Jvm.exec) {own : String} {ix : Nat} {y : MethodName} {cls : String} (hown : s.vm.findClass own = some m.cls)
    (hlink : (Cond.methodLink own ix ⟨cls, y.name, y.desc⟩).before args s = true) (hsame : (Cond.sameMethod cls y.cls y.name y.desc).before args s = true) (hy : y.cls ≠ "java/lang/invoke/MethodHandle" ∧ y.cls ≠ "java/lang/invoke/VarHandle")
    {mk : MethodId} {mm : Method} {kk : Class} (hn : s.methodNamed? y = some mk) (hmm : s.vm.method? mk = some mm) (hst : mm.isStatic = true) (hkk : s.vm.classes[mk.cls]? = some kk) (hini : kk.init = .initialized)
    {g : JFrame} (hg : g.method = m) {As rest : List Value} (hlen : As.length = mm.sig.parameters.length) (hstack : g.stack = As.reverse ++ rest) (hdg : decode c.code g.pc = .ok (.invokestatic ix, 3)) :
    ∃ vm', Stand p l e R s m args below meth c (T.setVm vm') locs cells slots ∧ ∀ tg, (∀ acts, Steps p.tables e below (doInvoke e ((T.setVm vm').setTop { g with stack := rest }) acts mk As.toArray).1 tg) → Steps p.tables e below (T.setTop g) tg := by
  obtain ⟨cn, ck, r1, hcn, hck, hni, hf, hn1⟩ := Cond.sameMethod_found hsame
  cases hn.symm.trans hn1
  obtain ⟨ci, hl, hright⟩ := Cond.methodLink_specUp (x := ⟨cls, y.name, y.desc⟩) hown hcn hck hni hf hlink e.platform (by rw [X.admits.platform]) (by rw [X.admits.platform])
  have hE : s.MethodEntryUp e T.vm m.cls ix cn mk ci := State.methodEntryUp X.warmed hl hright
  obtain ⟨kx, hkx, hnx⟩ := className_of_methodNamed hn
  cases hkk.symm.trans hkx
  obtain ⟨dk, cf, nt, nm, ds, ck1, -, -, hdk, hcf, hcp, hnt, -, -, hck1, -, hpoly, -⟩ := hl.here
  cases hck.symm.trans hck1
  have hcp : cf.constantPool[ix]? = some (if false then .interfaceMethodref ci nt else .methodref ci nt) := hcp
  have al := hE.warmed.alike
  obtain ⟨dk2, hdk2, ed⟩ := al.2.2 _ _ hdk
  obtain ⟨kk2, hkk2, ek⟩ := al.2.2 _ _ hkk
  obtain ⟨ck2, hck2, ec⟩ := al.2.2 _ _ hck
  have no1 : (ck.methods.any fun z => z.name == nm && !z.isStatic && signaturePolymorphic ck z) = false := by simp [hpoly]
  have no2 : (ck2.methods.any fun z => z.name == nm && !z.isStatic && signaturePolymorphic ck2 z) = false := by rw [ec]; exact no1
  have np : signaturePolymorphic kk2 mm = false := by rw [ek]; show signaturePolymorphic kk mm = false; simp [signaturePolymorphic, hnx, hy.1, hy.2]
  have hm2 : (T.vm.calledUp m.cls ci ix cn mk).method? mk = some mm := by rw [al.method?]; exact hmm
  refine ⟨T.vm.calledUp m.cls ci ix cn mk, X.noted hE.warmed, fun tg hr => ?_⟩
  subst hg
  jvm_step X.here [hexec, hdg, sup_warm (e := e) (U := T) (U₀ := s) (f := g) X.here.top (by rw [X.admits.platform]) X.warmed hE hdk hcf hcp hnt hck no1,
    invokestatic.wp_ready (e := e) (s := T.setVm (T.vm.calledUp g.method.cls ci ix cn mk)) (k := kk2) (meth := mm) (m := mk) (args := As) (rest := rest) (f := g) X.here.top ⟨ci, nm, ds, false, cn, ck2, memberRef_ask_via (e := e) hdk2 (by rw [ed]; exact hcf) hcp hnt, hE.classReady, hck2, no2⟩ hE.ready hkk2 hm2 np hst (by rw [ek]; exact hini) hlen hstack]
  exact fun acts => hr _
end UP
theorem up_ok (l : Launch) : upOk l := by
  intro p e R s m args below meth c H locs cells slots cc pc o n d m' mc ms ls As rest Pc Qc free hx hb hml hts hown hd hf hlo hc hs hm hlink hsame hst hini hM hp hn hW
  obtain ⟨k1, k2, k3, k4, k5, k6, k7⟩ := mT_cls hm
  have hcode : (Cond.code (mY m') (mB m') (mL m') (mR m')).before args s = true := hts _ (mT_code m' hm)
  have hK : Back l R p e below s args (mY m') 3 8 (PreOf R mc ms Pc) (PostOf Qc mc ms free) := back_of (bytes := mB m') (maxL := mL m') (ret := mR m') hM hp.1 rfl rfl hf (by show 8 + (mL m' + 11) + 100 * (d + 1) ≤ _; omega) (pay_in hts (jGood hm)) List.mem_cons_self (fun a' U hW => word_at hW (Or.inl (by first | rfl | simp [Cond.onTables, Cond.keeps, Cond.steady])) hini)
  intro T hT X
  obtain ⟨mk, hnamed⟩ := Cond.code_named hcode
  obtain ⟨methM, cM, hmethM, -, -, -, -, -, -, hsigM⟩ := Cond.code_spec hnamed hcode
  have hstatic : methM.isStatic = true := Cond.static_spec hnamed hmethM hst
  obtain ⟨kP, hkP, -⟩ := className_of_methodNamed hnamed
  have hinitP : kP.init = .initialized := Cond.initialized_spec (findClass_of_methodNamed hnamed) hkP hini
  obtain ⟨vm₁, X₁, hstep⟩ := sup_step X hx hown hlink hsame ⟨k4, k5⟩ hnamed hmethM hstatic hkP hinitP (g := F0 m pc ls (As.reverse ++ rest)) rfl (As := As) (rest := rest) (hn.trans (par_len k6 _ hsigM)) rfl (by rw [hb]; exact hd)
  obtain ⟨v, B, X', hpost, hsteps⟩ := hK m meth c ⟨T.setVm vm₁, locs, cells, slots⟩ (F0 m pc ls rest) (.invokestatic n) mk As.toArray X₁ rfl hml.symm (by rw [hb]; exact hd) (lv_room hW) (X₁.named hnamed) ⟨hc, hs, hp.2 (T.setVm vm₁) hT X₁.warmed⟩
  obtain ⟨U', l2, c2, s2⟩ := B
  obtain ⟨g', mk', t, L, e1, e2, hq, h1, hL, h2, h3⟩ := hpost
  dsimp only [Pt.U, Pt.locs, Pt.cells, Pt.slots] at X' e1 e2 h1 h2 h3 hsteps
  subst h1; subst h2; subst h3
  exact ⟨v, (T.setVm vm₁).calling g' mk' As.toArray, t, U', L, hT, X', hL, e1, e2, hq, fun tg h => hstep _ fun acts => by rw [doInvoke_state]; exact hsteps.trans h⟩
end
section
/-! WALKING THE SMALL MACHINE: Ev: from here the method comes to its end with Q; Cl: a call of it does -/
def Ev (d m pc : Nat) (L : jL) (S : List jV) (σ : jS) (Q : Option jV → jS → Prop) : Prop := ∃ (f : Nat) (r : Option jV) (σ' : jS), run f d m pc L S σ = some (r, σ') ∧ Q r σ'
def Cl (d m : Nat) (a : List jV) (σ : jS) (Q : Option jV → jS → Prop) : Prop := szS a ≤ mL m ∧ Ev d m 0 (iniL (mL m) a) [] σ Q
/-- a store in which nothing more is made -/
abbrev ST (n sl : Nat) (sh : Nat → Nat × Nat) (I : Nat → Int → Int) (R : Nat → Int → Option Nat) : jS := (false, n, sl, sh, I, R)
section EV
variable {d m pc : Nat} {L L' : jL} {S S' : List jV} {σ σ' : jS} {Q : Option jV → jS → Prop} {i : Instr} {len : Nat}
theorem ev_s1 (hd : decode (mB m) pc = .ok (i, len)) (hl : lenOk i len = true) (h : s1 (mO m) i L S = some (L', S')) (k : Ev d m (pc + len) L' S' σ Q) : Ev d m pc L S σ Q := by
  obtain ⟨f, r, σ', h1, h2⟩ := k
  refine ⟨f + 1, r, σ', ?_, h2⟩
  unfold run
  simp only [hd, hl, if_true, h]
  exact h1
theorem ev_s2 (hd : decode (mB m) pc = .ok (i, len)) (hl : lenOk i len = true) (h0 : s1 (mO m) i L S = none) (h : s2 (mO m) (isInit m) i S σ = some (S', σ')) (k : Ev d m (pc + len) L S' σ' Q) : Ev d m pc L S σ Q := by
  obtain ⟨f, r, σ1, h1, h2⟩ := k
  refine ⟨f + 1, r, σ1, ?_, h2⟩
  unfold run
  simp only [hd, hl, if_true, h0, h]
  exact h1
theorem ev_s3 {pc' : Nat} (hd : decode (mB m) pc = .ok (i, len)) (hl : lenOk i len = true) (h0 : s1 (mO m) i L S = none) (h1 : s2 (mO m) (isInit m) i S σ = none) (h : s3 i pc len S = some (pc', S')) (k : Ev d m pc' L S' σ Q) : Ev d m pc L S σ Q := by
  obtain ⟨f, r, σ1, g1, h2⟩ := k
  refine ⟨f + 1, r, σ1, ?_, h2⟩
  unfold run
  simp only [hd, hl, if_true, h0, h1, h]
  exact g1
theorem ev_s4 {r : Option jV} (hd : decode (mB m) pc = .ok (i, len)) (hl : lenOk i len = true) (h0 : s1 (mO m) i L S = none) (h1 : s2 (mO m) (isInit m) i S σ = none) (h2 : s3 i pc len S = none) (h : s4 (mR m) i S = some r) (k : Q r σ) : Ev d m pc L S σ Q := by
  refine ⟨1, r, σ, ?_, k⟩
  unfold run
  simp only [hd, hl, if_true, h0, h1, h2, h]
theorem ev_s5 {m' : Nat} {a : List jV} (hd : decode (mB m) pc = .ok (i, len)) (hl : lenOk i len = true) (h0 : s1 (mO m) i L S = none) (h1 : s2 (mO m) (isInit m) i S σ = none) (h2 : s3 i pc len S = none) (h3 : s4 (mR m) i S = none) (h : s5 (mO m) i S σ = some (m', a, S')) (hdp : 0 < d) (k : Cl (d - 1) m' a σ (fun r σ' => Ev d m (pc + 3) L (r.toList ++ S') σ' Q)) : Ev d m pc L S σ Q := by
  obtain ⟨hz, f, r, σ1, g1, f2, r2, σ2, g2, g3⟩ := k
  refine ⟨f + f2 + 1, r2, σ2, ?_, g3⟩
  have e1 := run_le (g := f + f2) (by omega) g1
  have e2 := run_le (g := f + f2) (by omega) g2
  obtain ⟨d, rfl⟩ : ∃ d', d = d' + 1 := ⟨d - 1, by omega⟩
  unfold run
  simp only [hd, hl, if_true, h0, h1, h2, h3, h, hz]
  rw [show d + 1 - 1 = d from rfl] at e1
  rw [e1]
  exact e2
theorem Ev.mono {Q' : Option jV → jS → Prop} (h : Ev d m pc L S σ Q) (hq : ∀ r σ, Q r σ → Q' r σ) : Ev d m pc L S σ Q' := by
  obtain ⟨f, r, σ', h1, h2⟩ := h
  exact ⟨f, r, σ', h1, hq _ _ h2⟩
theorem Cl.mono {a : List jV} {Q' : Option jV → jS → Prop} (h : Cl d m a σ Q) (hq : ∀ r σ, Q r σ → Q' r σ) : Cl d m a σ Q' := ⟨h.1, h.2.mono hq⟩
end EV
section EVS
variable {d m pc n sl : Nat} {sh : Nat → Nat × Nat} {I : Nat → Int → Int} {R : Nat → Int → Option Nat} {L : jL} {S : List jV} {Q : Option jV → jS → Prop}
theorem ev_ldc {ix : Nat} {z : Int} (hd : decode (mB m) pc = .ok (.ldc ix, 2) ∧ tK (mO m) ix = some z) (k : Ev d m (pc + 2) L (vi z :: S) (ST n sl sh I R) Q) : Ev d m pc L S (ST n sl sh I R) Q :=
  ev_s1 hd.1 rfl (by show (tK (mO m) ix).map _ = _; rw [hd.2]; rfl) k
theorem ev_ldcw {ix : Nat} {z : Int} (hd : decode (mB m) pc = .ok (.ldc_w ix, 3) ∧ tK (mO m) ix = some z) (k : Ev d m (pc + 3) L (vi z :: S) (ST n sl sh I R) Q) : Ev d m pc L S (ST n sl sh I R) Q :=
  ev_s1 hd.1 rfl (by show (tK (mO m) ix).map _ = _; rw [hd.2]; rfl) k
theorem ev_ldc2 {ix : Nat} {z : Int} (hd : decode (mB m) pc = .ok (.ldc2_w ix, 3) ∧ tKK (mO m) ix = some z) (k : Ev d m (pc + 3) L (vl z :: S) (ST n sl sh I R) Q) : Ev d m pc L S (ST n sl sh I R) Q :=
  ev_s1 hd.1 rfl (by show (tKK (mO m) ix).map _ = _; rw [hd.2]; rfl) k
theorem ev_idiv {x y : Int} (hd : decode (mB m) pc = .ok (.idiv, 1)) (h0 : 0 ≤ x) (h1 : x < 2147483648) (h2 : 0 < y) (h3 : y < 2147483648) (k : Ev d m (pc + 1) L (vi (x / y) :: S) (ST n sl sh I R) Q) : Ev d m pc L (vi y :: vi x :: S) (ST n sl sh I R) Q :=
  ev_s1 hd rfl (by simp [s1, h0, h1, h2, h3]) k
theorem ev_irem {x y : Int} (hd : decode (mB m) pc = .ok (.irem, 1)) (h0 : 0 ≤ x) (h1 : x < 2147483648) (h2 : 0 < y) (h3 : y < 2147483648) (k : Ev d m (pc + 1) L (vi (x % y) :: S) (ST n sl sh I R) Q) : Ev d m pc L (vi y :: vi x :: S) (ST n sl sh I R) Q :=
  ev_s1 hd rfl (by simp [s1, h0, h1, h2, h3]) k
theorem ev_lrem {x y : Int} (hd : decode (mB m) pc = .ok (.lrem, 1)) (h0 : 0 ≤ x) (h1 : x < 9223372036854775808) (h2 : 0 < y) (h3 : y < 9223372036854775808) (k : Ev d m (pc + 1) L (vl (x % y) :: S) (ST n sl sh I R) Q) : Ev d m pc L (vl y :: vl x :: S) (ST n sl sh I R) Q :=
  ev_s1 hd rfl (by simp [s1, h0, h1, h2, h3]) k
theorem ev_ishl {x y : Int} (hd : decode (mB m) pc = .ok (.ishl, 1)) (h0 : 0 ≤ y) (h1 : y < 32) (k : Ev d m (pc + 1) L (vi (x * 2 ^ y.toNat) :: S) (ST n sl sh I R) Q) : Ev d m pc L (vi y :: vi x :: S) (ST n sl sh I R) Q :=
  ev_s1 hd rfl (by simp [s1, h0, h1]) k
theorem ev_ishr {x y : Int} (hd : decode (mB m) pc = .ok (.ishr, 1)) (h0 : 0 ≤ y) (h1 : y < 32) (k : Ev d m (pc + 1) L (vi (wr x / 2 ^ y.toNat) :: S) (ST n sl sh I R) Q) : Ev d m pc L (vi y :: vi x :: S) (ST n sl sh I R) Q :=
  ev_s1 hd rfl (by simp [s1, h0, h1]) k
theorem ev_iand1 {x : Int} (hd : decode (mB m) pc = .ok (.iand, 1)) (k : Ev d m (pc + 1) L (vi (x % 2) :: S) (ST n sl sh I R) Q) : Ev d m pc L (vi 1 :: vi x :: S) (ST n sl sh I R) Q :=
  ev_s1 hd rfl (by simp [s1]) k
theorem ev_ior {x y : Int} (hd : decode (mB m) pc = .ok (.ior, 1)) (h0 : 0 ≤ x) (h1 : x < 2147483648) (h2 : 0 ≤ y) (h3 : y < 2147483648) (k : Ev d m (pc + 1) L (vi ((x.toNat ||| y.toNat : Nat) : Int) :: S) (ST n sl sh I R) Q) : Ev d m pc L (vi y :: vi x :: S) (ST n sl sh I R) Q :=
  ev_s1 hd rfl (by simp [s1, h0, h1, h2, h3]) k
theorem ev_i2l {x : Int} (hd : decode (mB m) pc = .ok (.i2l, 1)) (h0 : -2147483648 ≤ x) (h1 : x < 2147483648) (k : Ev d m (pc + 1) L (vl x :: S) (ST n sl sh I R) Q) : Ev d m pc L (vi x :: S) (ST n sl sh I R) Q :=
  ev_s1 hd rfl (by simp [s1, inB, h0, h1]) k
theorem ev_getI {ix k c j fin : Nat} (hd : decode (mB m) pc = .ok (.getfield ix, 3) ∧ tF (mO m) ix = some (c, j, 0, fin)) (hk : k < n) (hs : sh k = (c, 0)) (kk : Ev d m (pc + 3) L (vi (I k j) :: S) (ST n sl sh I R) Q) : Ev d m pc L (vr k :: S) (ST n sl sh I R) Q :=
  ev_s2 hd.1 rfl rfl (by simp [s2, hd.2, hk, hs]) kk
theorem ev_getR {ix k c j fin q : Nat} (hd : decode (mB m) pc = .ok (.getfield ix, 3) ∧ tF (mO m) ix = some (c, j, 1, fin)) (hk : k < n) (hs : sh k = (c, 0)) (hr : R k j = some q) (kk : Ev d m (pc + 3) L (vr q :: S) (ST n sl sh I R) Q) : Ev d m pc L (vr k :: S) (ST n sl sh I R) Q :=
  ev_s2 hd.1 rfl rfl (by simp [s2, hd.2, hk, hs, hr]) kk
theorem ev_putI {ix k c j : Nat} {z : Int} (hd : decode (mB m) pc = .ok (.putfield ix, 3) ∧ tF (mO m) ix = some (c, j, 0, 0)) (hk : k < n) (hs : sh k = (c, 0)) (kk : Ev d m (pc + 3) L S (ST n sl sh (up I k j z) R) Q) : Ev d m pc L (vi z :: vr k :: S) (ST n sl sh I R) Q :=
  ev_s2 hd.1 rfl rfl (by simp [s2, hd.2, hk, hs]) kk
theorem ev_putR {ix k c j q : Nat} (hd : decode (mB m) pc = .ok (.putfield ix, 3) ∧ tF (mO m) ix = some (c, j, 1, 0)) (hk : k < n) (hs : sh k = (c, 0)) (kk : Ev d m (pc + 3) L S (ST n sl sh I (up R k j (some q))) Q) : Ev d m pc L (vr q :: vr k :: S) (ST n sl sh I R) Q :=
  ev_s2 hd.1 rfl rfl (by simp [s2, hd.2, hk, hs]) kk
theorem ev_iald {k len : Nat} {x : Int} (hd : decode (mB m) pc = .ok (.iaload, 1)) (hk : k < n) (hs : sh k = (50, len)) (h0 : 0 ≤ x) (h1 : x < len) (kk : Ev d m (pc + 1) L (vi (I k x) :: S) (ST n sl sh I R) Q) : Ev d m pc L (vi x :: vr k :: S) (ST n sl sh I R) Q :=
  ev_s2 hd rfl rfl (by simp [s2, hk, hs, h0, h1]) kk
theorem ev_iast {k len : Nat} {x z : Int} (hd : decode (mB m) pc = .ok (.iastore, 1)) (hk : k < n) (hs : sh k = (50, len)) (h0 : 0 ≤ x) (h1 : x < len) (kk : Ev d m (pc + 1) L S (ST n sl sh (up I k x z) R) Q) : Ev d m pc L (vi z :: vi x :: vr k :: S) (ST n sl sh I R) Q :=
  ev_s2 hd rfl rfl (by simp [s2, hk, hs, h0, h1]) kk
theorem ev_zald {k len : Nat} {x : Int} (hd : decode (mB m) pc = .ok (.baload, 1)) (hk : k < n) (hs : sh k = (51, len)) (h0 : 0 ≤ x) (h1 : x < len) (kk : Ev d m (pc + 1) L (vi (I k x) :: S) (ST n sl sh I R) Q) : Ev d m pc L (vi x :: vr k :: S) (ST n sl sh I R) Q :=
  ev_s2 hd rfl rfl (by simp [s2, hk, hs, h0, h1]) kk
theorem ev_zast {k len : Nat} {x z : Int} (hd : decode (mB m) pc = .ok (.bastore, 1)) (hk : k < n) (hs : sh k = (51, len)) (h0 : 0 ≤ x) (h1 : x < len) (hz : z = 0 ∨ z = 1) (kk : Ev d m (pc + 1) L S (ST n sl sh (up I k x z) R) Q) : Ev d m pc L (vi z :: vi x :: vr k :: S) (ST n sl sh I R) Q :=
  ev_s2 hd rfl rfl (by simp [s2, hk, hs, h0, h1, hz]) kk
theorem ev_aald {k t len q : Nat} {x : Int} (hd : decode (mB m) pc = .ok (.aaload, 1)) (hk : k < n) (hs : sh k = (t, len)) (ht : 52 ≤ t) (ht2 : t ≤ 54) (h0 : 0 ≤ x) (h1 : x < len) (hr : R k x = some q) (kk : Ev d m (pc + 1) L (vr q :: S) (ST n sl sh I R) Q) : Ev d m pc L (vi x :: vr k :: S) (ST n sl sh I R) Q :=
  ev_s2 hd rfl rfl (by simp [s2, hk, hs, h0, h1, hr, ht, ht2]) kk
theorem ev_aast {k t len q ci : Nat} {x : Int} (hd : decode (mB m) pc = .ok (.aastore, 1)) (hk : k < n) (hs : sh k = (t, len)) (hq : q < n) (hs2 : sh q = (ci, 0)) (hci : ci < 12) (ht : 52 ≤ t) (ht2 : t ≤ 54) (hi : tIt ci t = true) (h0 : 0 ≤ x) (h1 : x < len) (kk : Ev d m (pc + 1) L S (ST n sl sh I (up R k x (some q))) Q) : Ev d m pc L (vr q :: vi x :: vr k :: S) (ST n sl sh I R) Q :=
  ev_s2 hd rfl rfl (by simp [s2, hk, hs, hq, hs2, hci, hi, h0, h1, ht, ht2]) kk
theorem ev_len {k t len : Nat} (hd : decode (mB m) pc = .ok (.arraylength, 1)) (hk : k < n) (hs : sh k = (t, len)) (ht : 50 ≤ t) (ht2 : t ≤ 54) (kk : Ev d m (pc + 1) L (vi (len : Nat) :: S) (ST n sl sh I R) Q) : Ev d m pc L (vr k :: S) (ST n sl sh I R) Q :=
  ev_s2 hd rfl rfl (by simp [s2, hk, hs, ht, ht2]) kk
theorem ev_inst {ix k w ci : Nat} {r : Bool} (hd : decode (mB m) pc = .ok (.instanceof ix, 3) ∧ tO (mO m) ix = some w) (hk : k < n) (hs : sh k = (ci, 0)) (hci : ci < 12) (hr : tIn ci w = some r) (kk : Ev d m (pc + 3) L (vi (if r then 1 else 0) :: S) (ST n sl sh I R) Q) : Ev d m pc L (vr k :: S) (ST n sl sh I R) Q :=
  ev_s2 hd.1 rfl rfl (by simp [s2, hd.2, hk, hs, hci, hr]) kk
theorem ev_max {ix : Nat} {x y : Int} (hd : decode (mB m) pc = .ok (.invokestatic ix, 3) ∧ tM (mO m) ix = some 3) (hx : inB x = true) (hy : inB y = true) (hz : szS S ≤ 8) (kk : Ev d m (pc + 3) L (vi (if x < y then y else x) :: S) (ST n sl sh I R) Q) : Ev d m pc L (vi y :: vi x :: S) (ST n sl sh I R) Q :=
  ev_s2 hd.1 rfl rfl (by simp [s2, hd.2, hx, hy, hz]) kk
theorem ev_min {ix : Nat} {x y : Int} (hd : decode (mB m) pc = .ok (.invokestatic ix, 3) ∧ tM (mO m) ix = some 4) (hx : inB x = true) (hy : inB y = true) (hz : szS S ≤ 8) (kk : Ev d m (pc + 3) L (vi (if x < y then x else y) :: S) (ST n sl sh I R) Q) : Ev d m pc L (vi y :: vi x :: S) (ST n sl sh I R) Q :=
  ev_s2 hd.1 rfl rfl (by simp [s2, hd.2, hx, hy, hz]) kk
theorem ev_abs {ix : Nat} {x : Int} (hd : decode (mB m) pc = .ok (.invokestatic ix, 3) ∧ tM (mO m) ix = some 2) (hx : -2147483648 < x) (hy : x < 2147483648) (hz : szS S ≤ 8) (kk : Ev d m (pc + 3) L (vi (if 0 ≤ x then x else -x) :: S) (ST n sl sh I R) Q) : Ev d m pc L (vi x :: S) (ST n sl sh I R) Q :=
  ev_s2 hd.1 rfl rfl (by simp [s2, hd.2, hx, hy, hz]) kk
theorem ev_bit {ix : Nat} {x : Int} (hd : decode (mB m) pc = .ok (.invokestatic ix, 3) ∧ tM (mO m) ix = some 1) (hx : 0 ≤ x) (hy : x < 32) (hz : szS S ≤ 8) (kk : Ev d m (pc + 3) L (vi (bitC x) :: S) (ST n sl sh I R) Q) : Ev d m pc L (vi x :: S) (ST n sl sh I R) Q :=
  ev_s2 hd.1 rfl rfl (by simp [s2, hd.2, hx, hy, hz]) kk
theorem ev_cpy {ix k0 k1 l0 l1 : Nat} {x sp dp : Int} (hd : decode (mB m) pc = .ok (.invokestatic ix, 3) ∧ tM (mO m) ix = some 0) (g0 : k0 < n) (g1 : k1 < n) (t0 : sh k0 = (50, l0)) (t1 : sh k1 = (50, l1)) (h0 : 0 ≤ sp) (h1 : 0 ≤ dp) (h2 : 0 ≤ x) (h3 : sp + x ≤ l0) (h4 : dp + x ≤ l1) (hz : szS S ≤ 8) (kk : Ev d m (pc + 3) L S (ST n sl sh (cpI I k0 k1 sp dp x) R) Q) : Ev d m pc L (vi x :: vi dp :: vr k1 :: vi sp :: vr k0 :: S) (ST n sl sh I R) Q :=
  ev_s2 hd.1 rfl rfl (by simp [s2, hd.2, g0, g1, t0, t1, h0, h1, h2, h3, h4, hz]) kk
theorem ev_goto {off : Int} {t : Nat} (hd : decode (mB m) pc = .ok (.goto off, 3)) (ht : toPc pc off = some t) (kk : Ev d m t L S (ST n sl sh I R) Q) : Ev d m pc L S (ST n sl sh I R) Q :=
  ev_s3 hd rfl rfl rfl (by simp [s3, ht]) kk
theorem ev_if {cd : Jvm.ClassFile.Cond} {off : Int} {t : Nat} {x : Int} (hd : decode (mB m) pc = .ok (.ifCond cd off, 3)) (ht : toPc pc off = some t) (h0 : -2147483648 ≤ x) (h1 : x < 2147483648) (kt : cmpB cd x 0 = true → Ev d m t L S (ST n sl sh I R) Q) (kf : cmpB cd x 0 = false → Ev d m (pc + 3) L S (ST n sl sh I R) Q) : Ev d m pc L (vi x :: S) (ST n sl sh I R) Q := by
  cases hc : cmpB cd x 0
  · exact ev_s3 hd rfl rfl rfl (by simp [s3, ht, inB, h0, h1, hc]) (kf hc)
  · exact ev_s3 hd rfl rfl rfl (by simp [s3, ht, inB, h0, h1, hc]) (kt hc)
theorem ev_icmp {cd : Jvm.ClassFile.Cond} {off : Int} {t : Nat} {x y : Int} (hd : decode (mB m) pc = .ok (.if_icmp cd off, 3)) (ht : toPc pc off = some t) (h0 : -2147483648 ≤ x) (h1 : x < 2147483648) (h2 : -2147483648 ≤ y) (h3 : y < 2147483648) (kt : cmpB cd x y = true → Ev d m t L S (ST n sl sh I R) Q) (kf : cmpB cd x y = false → Ev d m (pc + 3) L S (ST n sl sh I R) Q) : Ev d m pc L (vi y :: vi x :: S) (ST n sl sh I R) Q := by
  cases hc : cmpB cd x y
  · exact ev_s3 hd rfl rfl rfl (by simp [s3, ht, inB, h0, h1, h2, h3, hc]) (kf hc)
  · exact ev_s3 hd rfl rfl rfl (by simp [s3, ht, inB, h0, h1, h2, h3, hc]) (kt hc)
theorem ev_ireturn {x : Int} (hd : decode (mB m) pc = .ok (.ireturn, 1) ∧ mR m = some .int) (kk : Q (some (vi x)) (ST n sl sh I R)) : Ev d m pc L [vi x] (ST n sl sh I R) Q :=
  ev_s4 hd.1 rfl rfl rfl rfl (by rw [hd.2]; rfl) kk
theorem ev_zreturn {x : Int} (hd : decode (mB m) pc = .ok (.ireturn, 1) ∧ mR m = some .boolean) (hx : x = 0 ∨ x = 1) (kk : Q (some (vi x)) (ST n sl sh I R)) : Ev d m pc L [vi x] (ST n sl sh I R) Q :=
  ev_s4 hd.1 rfl rfl rfl rfl (by rw [hd.2]; simp [s4, hx]) kk
theorem ev_return (hd : decode (mB m) pc = .ok (.return_, 1) ∧ mR m = none) (kk : Q none (ST n sl sh I R)) : Ev d m pc L [] (ST n sl sh I R) Q :=
  ev_s4 hd.1 rfl rfl rfl rfl (by rw [hd.2]; rfl) kk
theorem ev_static {ix m' : Nat} {a : List jV} {S' : List jV} (hd : decode (mB m) pc = .ok (.invokestatic ix, 3) ∧ tM (mO m) ix = none ∧ tS (mO m) ix = some m') (hp : popN (mP m') S = some (a, S')) (hz : szS S' ≤ 8) (hdp : 0 < d) (kk : Cl (d - 1) m' a (ST n sl sh I R) (fun r σ' => Ev d m (pc + 3) L (r.toList ++ S') σ' Q)) : Ev d m pc L S (ST n sl sh I R) Q :=
  ev_s5 hd.1 rfl rfl (by simp [s2, hd.2.1]) rfl rfl (by simp [s5, hd.2.2, hp, hz]) hdp kk
theorem ev_virt {ix m' np k ci : Nat} {a : List jV} {S' : List jV} (hd : decode (mB m) pc = .ok (.invokevirtual ix, 3) ∧ tVn (mO m) ix = some np ∧ tV (mO m) ix ci = some m') (hp : popN np S = some (a, vr k :: S')) (hz : szS S' ≤ 8) (hk : k < n) (hs : sh k = (ci, 0)) (hdp : 0 < d) (kk : Cl (d - 1) m' (vr k :: a) (ST n sl sh I R) (fun r σ' => Ev d m (pc + 3) L (r.toList ++ S') σ' Q)) : Ev d m pc L S (ST n sl sh I R) Q :=
  ev_s5 hd.1 rfl rfl rfl rfl rfl (by simp [s5, hd.2.1, hd.2.2, hp, hz, hk, hs]) hdp kk
theorem ev_spec {ix m' k ci : Nat} {a : List jV} {S' : List jV} (hd : decode (mB m) pc = .ok (.invokespecial ix, 3) ∧ tB (mO m) ix = false ∧ tI (mO m) ix = none ∧ tJ (mO m) ix = none ∧ tP (mO m) ix = some m') (hp : popN (mP m') S = some (a, vr k :: S')) (hz : szS S' ≤ 8) (hk : k < n) (hs : sh k = (ci, 0)) (hci : ci < 12) (hdp : 0 < d) (kk : Cl (d - 1) m' (vr k :: a) (ST n sl sh I R) (fun r σ' => Ev d m (pc + 3) L (r.toList ++ S') σ' Q)) : Ev d m pc L S (ST n sl sh I R) Q := by
  have h2 : s2 (mO m) (isInit m) (.invokespecial ix) S (ST n sl sh I R) = none := by
    unfold s2
    dsimp only
    split
    · simp [hd.2.1]
    · rfl
  exact ev_s5 hd.1 rfl rfl h2 rfl rfl (by simp [s5, hd.2.2.1, hd.2.2.2.1, hd.2.2.2.2, hp, hz, hk, hs, hci]) hdp kk
end EVS
end
section
/-! THE TWO OBJECTS, MADE: what the constructors leave, by the kernel -/
def shXl : List (Nat × Nat) := [(10, 0), (52, 8), (50, 8), (4, 0), (50, 16), (52, 2), (52, 24), (53, 5), (5, 0), (7, 0), (0, 0), (9, 0), (2, 0), (8, 0), (54, 5), (50, 5), (50, 5), (50, 5), (50, 5), (1, 0), (1, 0), (1, 0), (1, 0), (1, 0), (6, 0), (4, 0), (50, 100), (4, 0), (50, 53), (8, 0), (54, 5), (50, 5), (50, 5), (50, 5), (50, 5), (1, 0), (1, 0), (1, 0), (1, 0), (1, 0), (3, 0), (4, 0), (50, 53), (50, 3), (50, 5), (8, 0), (54, 5), (50, 5), (50, 5), (50, 5), (50, 5), (1, 0), (1, 0), (1, 0), (1, 0), (1, 0), (1, 0), (4, 0), (50, 40), (4, 0), (50, 40), (4, 0), (50, 40), (4, 0), (50, 40), (4, 0), (50, 40), (4, 0), (50, 40), (4, 0), (50, 40), (4, 0), (50, 40), (4, 0), (50, 53), (4, 0), (50, 53), (4, 0), (50, 53), (4, 0), (50, 53), (4, 0), (50, 53), (4, 0), (50, 53), (4, 0), (50, 53), (4, 0), (50, 53), (4, 0), (50, 53), (4, 0), (50, 53), (4, 0), (50, 53), (4, 0), (50, 53), (4, 0), (50, 53), (4, 0), (50, 53), (4, 0), (50, 53), (4, 0), (50, 53), (4, 0), (50, 53), (4, 0), (50, 53), (4, 0), (50, 53), (4, 0), (50, 53), (4, 0), (50, 53), (4, 0), (50, 53), (4, 0), (50, 53), (4, 0), (50, 53), (4, 0), (50, 53), (4, 0), (50, 53)]
def shX (k : Nat) : Nat × Nat := shXl.getD k (0, 0)
def shMl : List (Nat × Nat) := [(11, 0), (50, 8), (50, 8), (50, 320), (50, 40), (50, 100), (50, 48), (50, 48), (50, 48), (50, 1152), (50, 96), (51, 2), (50, 5), (50, 5), (50, 16)]
def shM (k : Nat) : Nat × Nat := shMl.getD k (0, 0)

/-- the class's own cells: which chairs the room holds (ch), of which kind a chair is (kd) -/
def isCh (a : Nat) : Bool := (Nat.ble 19 a && Nat.ble a 23) || (Nat.ble 35 a && Nat.ble a 39) || (Nat.ble 51 a && Nat.ble a 56)
def isLn (a : Nat) : Bool := a == 3 || a == 25 || a == 27 || a == 41 || (Nat.ble 57 a && Nat.ble a 123 && a % 2 == 1)
def rX (ch : Int → Nat) (kd : Nat → Nat) (a : Nat) (b : Int) : Option Nat :=
  if a == 14 then (if decide (0 ≤ b) && decide (b < 5) then some (ch b) else none)
  else if isCh a then (if b = 0 then some (kd a) else none)
  else if isLn a then (if b = 0 then some (a + 1) else none)
  else if a == 0 then (if b = 0 then some 1 else if b = 1 then some 2 else if b = 2 then some 3 else if b = 3 then some 5 else if b = 4 then some 6 else if b = 5 then some 13 else if b = 6 then some 24 else if b = 7 then some 40 else none)
  else if a == 1 then (if decide (0 ≤ b) && decide (b < 8) then some (57 + 2 * b.toNat) else none)
  else if a == 5 then (if decide (0 ≤ b) && decide (b < 2) then some (73 + 2 * b.toNat) else none)
  else if a == 6 then (if decide (0 ≤ b) && decide (b < 24) then some (77 + 2 * b.toNat) else none)
  else if a == 7 then (if decide (0 ≤ b) && decide (b < 5) then some (8 + b.toNat) else none)
  else if a == 30 || a == 46 then (if decide (0 ≤ b) && decide (b < 5) then some (a + 5 + b.toNat) else none)
  else if a == 13 || a == 29 || a == 45 then (if b = 0 then some 7 else if decide (1 ≤ b) && decide (b ≤ 5) then some (a + b.toNat) else none)
  else if a == 24 then (if b = 0 then some 25 else if b = 1 then some 27 else if b = 2 then some 29 else none)
  else if a == 40 then (if b = 0 then some 13 else if b = 1 then some 45 else if b = 2 then some 7 else if b = 3 then some 56 else if b = 4 then some 41 else if b = 5 then some 43 else if b = 6 then some 44 else none)
  else none
def iX (a : Nat) (b : Int) : Int := if a == 2 then -1 else if isCh a && decide (b = 5) then -1000000 else 0
def rM (a : Nat) (b : Int) : Option Nat := if a == 0 then (if b = 0 then some 1 else if b = 1 then some 2 else if b = 2 then some 3 else if b = 3 then some 4 else if b = 5 then some 5 else if b = 13 then some 6 else if b = 14 then some 7 else if b = 15 then some 8 else if b = 16 then some 9 else if b = 18 then some 10 else if b = 19 then some 11 else if b = 20 then some 12 else if b = 21 then some 13 else if b = 22 then some 14 else none) else none
def iM (a : Nat) (_ : Int) : Int := if a == 1 then -1000000 else 0
def sX0 : jS := (true, 1, 12, (fun a => if a = 0 then (10, 0) else (0, 0)), (fun _ _ => 0), (fun _ _ => none))
def sM0 : jS := (true, 1, 24, (fun a => if a = 0 then (11, 0) else (0, 0)), (fun _ _ => 0), (fun _ _ => none))
/-- how many places a cell has -/
def plc (q : Nat × Nat) : Nat := if q.1 < 12 then cF q.1 else q.2
def chk (n sl : Nat) (sh : Nat → Nat × Nat) (I : Nat → Int → Int) (R : Nat → Int → Option Nat) (o : Option (Option jV × jS)) : Bool := match o with
  | some (none, σ) => σ.1 && (σ.2.1 == n) && (σ.2.2.1 == sl) && (List.range n).all (fun k => decide (σ.2.2.2.1 k = sh k) && (List.range (plc (sh k))).all (fun j => decide (σ.2.2.2.2.1 k j = I k j) && decide (σ.2.2.2.2.2 k j = R k j)))
  | _ => false
set_option maxRecDepth 100000 in
theorem mk_M : chk 15 1920 shM iM rM (run 1000 10 154 0 (iniL (mL 154) [vr 0]) [] sM0) = true := by decide +kernel
def chkn (o : Option (Option jV × jS)) : Bool := match o with
  | some (none, σ) => σ.1 && (σ.2.1 == 125) && (σ.2.2.1 == 2312)
  | _ => false
set_option maxRecDepth 100000 in
theorem mk_X0 : chkn (run 3000 10 109 0 (iniL (mL 109) [vr 0]) [] sX0) = true := by decide +kernel
def chkp (lo n : Nat) (sh : Nat → Nat × Nat) (I : Nat → Int → Int) (R : Nat → Int → Option Nat) (o : Option (Option jV × jS)) : Bool := match o with
  | some (none, σ) => (List.range n).all (fun i => decide (σ.2.2.2.1 (lo + i) = sh (lo + i)) && (List.range (plc (sh (lo + i)))).all (fun j => decide (σ.2.2.2.2.1 (lo + i) j = I (lo + i) j) && decide (σ.2.2.2.2.2 (lo + i) j = R (lo + i) j)))
  | _ => false

set_option maxRecDepth 100000 in
theorem mk_X1 : chkp 0 27 shX iX (rX (fun i => 19 + i.toNat) (fun _ => 8)) (run 3000 10 109 0 (iniL (mL 109) [vr 0]) [] sX0) = true := by decide +kernel

set_option maxRecDepth 100000 in
theorem mk_X2 : chkp 27 25 shX iX (rX (fun i => 19 + i.toNat) (fun _ => 8)) (run 3000 10 109 0 (iniL (mL 109) [vr 0]) [] sX0) = true := by decide +kernel

set_option maxRecDepth 100000 in
theorem mk_X3 : chkp 52 15 shX iX (rX (fun i => 19 + i.toNat) (fun _ => 8)) (run 3000 10 109 0 (iniL (mL 109) [vr 0]) [] sX0) = true := by decide +kernel

set_option maxRecDepth 100000 in
theorem mk_X4 : chkp 67 10 shX iX (rX (fun i => 19 + i.toNat) (fun _ => 8)) (run 3000 10 109 0 (iniL (mL 109) [vr 0]) [] sX0) = true := by decide +kernel

set_option maxRecDepth 100000 in
theorem mk_X5 : chkp 77 10 shX iX (rX (fun i => 19 + i.toNat) (fun _ => 8)) (run 3000 10 109 0 (iniL (mL 109) [vr 0]) [] sX0) = true := by decide +kernel

set_option maxRecDepth 100000 in
theorem mk_X6 : chkp 87 10 shX iX (rX (fun i => 19 + i.toNat) (fun _ => 8)) (run 3000 10 109 0 (iniL (mL 109) [vr 0]) [] sX0) = true := by decide +kernel

set_option maxRecDepth 100000 in
theorem mk_X7 : chkp 97 10 shX iX (rX (fun i => 19 + i.toNat) (fun _ => 8)) (run 3000 10 109 0 (iniL (mL 109) [vr 0]) [] sX0) = true := by decide +kernel

set_option maxRecDepth 100000 in
theorem mk_X8 : chkp 107 10 shX iX (rX (fun i => 19 + i.toNat) (fun _ => 8)) (run 3000 10 109 0 (iniL (mL 109) [vr 0]) [] sX0) = true := by decide +kernel

set_option maxRecDepth 100000 in
theorem mk_X9 : chkp 117 8 shX iX (rX (fun i => 19 + i.toNat) (fun _ => 8)) (run 3000 10 109 0 (iniL (mL 109) [vr 0]) [] sX0) = true := by decide +kernel
end
