section
-- ===== PART A: goes FIRST, ahead of the names: the tables' words, and 'selects' of the private methods out of them =====
/-- a private method of a class that the tables say can be made, by its rows of tables_1 -/
def lw_okq (q : MethodName × Nat) : Prop := (q.1.cls ≠ "java/lang/invoke/MethodHandle" ∧ q.1.cls ≠ "java/lang/invoke/VarHandle") ∧ Cond.instantiable q.1.cls q.2 ∈ tables_1 ∧ Cond.privateMethod q.1 ∈ tables_1 ∧ Cond.instanceMethod q.1 ∈ tables_1
theorem lw_p0 : lw_okq (⟨"ChairPast", "found", "(I)I"⟩, 12) := ⟨⟨by decide +kernel, by decide +kernel⟩, List.mem_of_getElem? (i := 18) (by decide +kernel), List.mem_of_getElem? (i := 308) (by decide +kernel), List.mem_of_getElem? (i := 309) (by decide +kernel)⟩
theorem lw_p1 : lw_okq (⟨"ChairPast", "sound", "(I)I"⟩, 12) := ⟨⟨by decide +kernel, by decide +kernel⟩, List.mem_of_getElem? (i := 18) (by decide +kernel), List.mem_of_getElem? (i := 321) (by decide +kernel), List.mem_of_getElem? (i := 322) (by decide +kernel)⟩
theorem lw_p2 : lw_okq (⟨"ChairPast", "isMissing", "(I)Z"⟩, 12) := ⟨⟨by decide +kernel, by decide +kernel⟩, List.mem_of_getElem? (i := 18) (by decide +kernel), List.mem_of_getElem? (i := 329) (by decide +kernel), List.mem_of_getElem? (i := 330) (by decide +kernel)⟩
theorem lw_p3 : lw_okq (⟨"ChairPast$Reader", "readLaw", "()V"⟩, 5) := ⟨⟨by decide +kernel, by decide +kernel⟩, List.mem_of_getElem? (i := 194) (by decide +kernel), List.mem_of_getElem? (i := 368) (by decide +kernel), List.mem_of_getElem? (i := 369) (by decide +kernel)⟩
theorem lw_p4 : lw_okq (⟨"ChairPast$Reader", "readSign", "(I)V"⟩, 5) := ⟨⟨by decide +kernel, by decide +kernel⟩, List.mem_of_getElem? (i := 194) (by decide +kernel), List.mem_of_getElem? (i := 372) (by decide +kernel), List.mem_of_getElem? (i := 373) (by decide +kernel)⟩
theorem lw_p5 : lw_okq (⟨"ChairPast$Reader", "ahead", "()I"⟩, 5) := ⟨⟨by decide +kernel, by decide +kernel⟩, List.mem_of_getElem? (i := 194) (by decide +kernel), List.mem_of_getElem? (i := 376) (by decide +kernel), List.mem_of_getElem? (i := 377) (by decide +kernel)⟩
theorem lw_p6 : lw_okq (⟨"ChairPast$Reader", "byteAt", "(I)I"⟩, 5) := ⟨⟨by decide +kernel, by decide +kernel⟩, List.mem_of_getElem? (i := 194) (by decide +kernel), List.mem_of_getElem? (i := 380) (by decide +kernel), List.mem_of_getElem? (i := 381) (by decide +kernel)⟩
theorem lw_p7 : lw_okq (⟨"ChairPast$Reader", "fail", "(I)V"⟩, 5) := ⟨⟨by decide +kernel, by decide +kernel⟩, List.mem_of_getElem? (i := 194) (by decide +kernel), List.mem_of_getElem? (i := 389) (by decide +kernel), List.mem_of_getElem? (i := 390) (by decide +kernel)⟩
theorem lw_p8 : lw_okq (⟨"ChairPast$Reader", "readNumber", "(II)I"⟩, 5) := ⟨⟨by decide +kernel, by decide +kernel⟩, List.mem_of_getElem? (i := 194) (by decide +kernel), List.mem_of_getElem? (i := 393) (by decide +kernel), List.mem_of_getElem? (i := 394) (by decide +kernel)⟩
theorem lw_p9 : lw_okq (⟨"ChairPast$Reader", "readChairs", "()V"⟩, 5) := ⟨⟨by decide +kernel, by decide +kernel⟩, List.mem_of_getElem? (i := 194) (by decide +kernel), List.mem_of_getElem? (i := 400) (by decide +kernel), List.mem_of_getElem? (i := 401) (by decide +kernel)⟩
theorem lw_p10 : lw_okq (⟨"ChairPast$Reader", "readChair", "()V"⟩, 5) := ⟨⟨by decide +kernel, by decide +kernel⟩, List.mem_of_getElem? (i := 194) (by decide +kernel), List.mem_of_getElem? (i := 407) (by decide +kernel), List.mem_of_getElem? (i := 408) (by decide +kernel)⟩
theorem lw_p11 : lw_okq (⟨"ChairPast$Reader", "readGuests", "()V"⟩, 5) := ⟨⟨by decide +kernel, by decide +kernel⟩, List.mem_of_getElem? (i := 194) (by decide +kernel), List.mem_of_getElem? (i := 416) (by decide +kernel), List.mem_of_getElem? (i := 417) (by decide +kernel)⟩
theorem lw_p12 : lw_okq (⟨"ChairPast$Reader", "readGuest", "()V"⟩, 5) := ⟨⟨by decide +kernel, by decide +kernel⟩, List.mem_of_getElem? (i := 194) (by decide +kernel), List.mem_of_getElem? (i := 420) (by decide +kernel), List.mem_of_getElem? (i := 421) (by decide +kernel)⟩
theorem lw_p13 : lw_okq (⟨"ChairPast", "forgetActs", "()V"⟩, 12) := ⟨⟨by decide +kernel, by decide +kernel⟩, List.mem_of_getElem? (i := 18) (by decide +kernel), List.mem_of_getElem? (i := 480) (by decide +kernel), List.mem_of_getElem? (i := 481) (by decide +kernel)⟩
theorem lw_p14 : lw_okq (⟨"ChairPast", "keepAct", "()V"⟩, 12) := ⟨⟨by decide +kernel, by decide +kernel⟩, List.mem_of_getElem? (i := 18) (by decide +kernel), List.mem_of_getElem? (i := 509) (by decide +kernel), List.mem_of_getElem? (i := 510) (by decide +kernel)⟩
theorem lw_p15 : lw_okq (⟨"ChairPast$Room", "peaceBehind", "(I)I"⟩, 9) := ⟨⟨by decide +kernel, by decide +kernel⟩, List.mem_of_getElem? (i := 90) (by decide +kernel), List.mem_of_getElem? (i := 600) (by decide +kernel), List.mem_of_getElem? (i := 601) (by decide +kernel)⟩
def lw_privs_1 : List (MethodName × Nat) := [(⟨"ChairPast", "found", "(I)I"⟩, 12), (⟨"ChairPast", "sound", "(I)I"⟩, 12), (⟨"ChairPast", "isMissing", "(I)Z"⟩, 12), (⟨"ChairPast$Reader", "readLaw", "()V"⟩, 5), (⟨"ChairPast$Reader", "readSign", "(I)V"⟩, 5), (⟨"ChairPast$Reader", "ahead", "()I"⟩, 5), (⟨"ChairPast$Reader", "byteAt", "(I)I"⟩, 5), (⟨"ChairPast$Reader", "fail", "(I)V"⟩, 5), (⟨"ChairPast$Reader", "readNumber", "(II)I"⟩, 5), (⟨"ChairPast$Reader", "readChairs", "()V"⟩, 5), (⟨"ChairPast$Reader", "readChair", "()V"⟩, 5), (⟨"ChairPast$Reader", "readGuests", "()V"⟩, 5), (⟨"ChairPast$Reader", "readGuest", "()V"⟩, 5), (⟨"ChairPast", "forgetActs", "()V"⟩, 12), (⟨"ChairPast", "keepAct", "()V"⟩, 12), (⟨"ChairPast$Room", "peaceBehind", "(I)I"⟩, 9)]
theorem lw_r1 : ∀ q ∈ lw_privs_1, lw_okq q := List.forall_mem_cons.mpr ⟨lw_p0, List.forall_mem_cons.mpr ⟨lw_p1, List.forall_mem_cons.mpr ⟨lw_p2, List.forall_mem_cons.mpr ⟨lw_p3, List.forall_mem_cons.mpr ⟨lw_p4, List.forall_mem_cons.mpr ⟨lw_p5, List.forall_mem_cons.mpr ⟨lw_p6, List.forall_mem_cons.mpr ⟨lw_p7, List.forall_mem_cons.mpr ⟨lw_p8, List.forall_mem_cons.mpr ⟨lw_p9, List.forall_mem_cons.mpr ⟨lw_p10, List.forall_mem_cons.mpr ⟨lw_p11, List.forall_mem_cons.mpr ⟨lw_p12, List.forall_mem_cons.mpr ⟨lw_p13, List.forall_mem_cons.mpr ⟨lw_p14, List.forall_mem_cons.mpr ⟨lw_p15, fun _ h => absurd h List.not_mem_nil⟩⟩⟩⟩⟩⟩⟩⟩⟩⟩⟩⟩⟩⟩⟩⟩
theorem lw_p16 : lw_okq (⟨"ChairPast$Room", "isTrio", "(I)Z"⟩, 9) := ⟨⟨by decide +kernel, by decide +kernel⟩, List.mem_of_getElem? (i := 90) (by decide +kernel), List.mem_of_getElem? (i := 607) (by decide +kernel), List.mem_of_getElem? (i := 608) (by decide +kernel)⟩
theorem lw_p17 : lw_okq (⟨"ChairPast$Foresight", "bearOnStool", "(I)I"⟩, 8) := ⟨⟨by decide +kernel, by decide +kernel⟩, List.mem_of_getElem? (i := 223) (by decide +kernel), List.mem_of_getElem? (i := 644) (by decide +kernel), List.mem_of_getElem? (i := 645) (by decide +kernel)⟩
theorem lw_p18 : lw_okq (⟨"ChairPast$Foresight", "startTrial", "()V"⟩, 8) := ⟨⟨by decide +kernel, by decide +kernel⟩, List.mem_of_getElem? (i := 223) (by decide +kernel), List.mem_of_getElem? (i := 673) (by decide +kernel), List.mem_of_getElem? (i := 674) (by decide +kernel)⟩
theorem lw_p19 : lw_okq (⟨"ChairPast$Foresight", "seatFrom", "(I)V"⟩, 8) := ⟨⟨by decide +kernel, by decide +kernel⟩, List.mem_of_getElem? (i := 223) (by decide +kernel), List.mem_of_getElem? (i := 679) (by decide +kernel), List.mem_of_getElem? (i := 680) (by decide +kernel)⟩
theorem lw_p20 : lw_okq (⟨"ChairPast$Foresight", "weighTrial", "()V"⟩, 8) := ⟨⟨by decide +kernel, by decide +kernel⟩, List.mem_of_getElem? (i := 223) (by decide +kernel), List.mem_of_getElem? (i := 683) (by decide +kernel), List.mem_of_getElem? (i := 684) (by decide +kernel)⟩
theorem lw_p21 : lw_okq (⟨"ChairPast$Foresight", "spellSitters", "(II)V"⟩, 8) := ⟨⟨by decide +kernel, by decide +kernel⟩, List.mem_of_getElem? (i := 223) (by decide +kernel), List.mem_of_getElem? (i := 704) (by decide +kernel), List.mem_of_getElem? (i := 705) (by decide +kernel)⟩
theorem lw_p22 : lw_okq (⟨"ChairPast$Foresight", "bearingBehind", "(III)I"⟩, 8) := ⟨⟨by decide +kernel, by decide +kernel⟩, List.mem_of_getElem? (i := 223) (by decide +kernel), List.mem_of_getElem? (i := 709) (by decide +kernel), List.mem_of_getElem? (i := 710) (by decide +kernel)⟩
theorem lw_p23 : lw_okq (⟨"ChairPast", "findingOf", "(III)I"⟩, 12) := ⟨⟨by decide +kernel, by decide +kernel⟩, List.mem_of_getElem? (i := 18) (by decide +kernel), List.mem_of_getElem? (i := 758) (by decide +kernel), List.mem_of_getElem? (i := 759) (by decide +kernel)⟩
theorem lw_p24 : lw_okq (⟨"ChairPast$Foresight", "ownGives", "(I[II)Z"⟩, 8) := ⟨⟨by decide +kernel, by decide +kernel⟩, List.mem_of_getElem? (i := 223) (by decide +kernel), List.mem_of_getElem? (i := 766) (by decide +kernel), List.mem_of_getElem? (i := 767) (by decide +kernel)⟩
theorem lw_p25 : lw_okq (⟨"ChairPast$Foresight", "alterStool", "(II)V"⟩, 8) := ⟨⟨by decide +kernel, by decide +kernel⟩, List.mem_of_getElem? (i := 223) (by decide +kernel), List.mem_of_getElem? (i := 778) (by decide +kernel), List.mem_of_getElem? (i := 779) (by decide +kernel)⟩
theorem lw_p26 : lw_okq (⟨"ChairPast$Foresight", "stoolGives", "([II)Z"⟩, 8) := ⟨⟨by decide +kernel, by decide +kernel⟩, List.mem_of_getElem? (i := 223) (by decide +kernel), List.mem_of_getElem? (i := 782) (by decide +kernel), List.mem_of_getElem? (i := 783) (by decide +kernel)⟩
theorem lw_p27 : lw_okq (⟨"ChairPast$Foresight", "peaceIfRecaned", "(I)I"⟩, 8) := ⟨⟨by decide +kernel, by decide +kernel⟩, List.mem_of_getElem? (i := 223) (by decide +kernel), List.mem_of_getElem? (i := 794) (by decide +kernel), List.mem_of_getElem? (i := 795) (by decide +kernel)⟩
theorem lw_p28 : lw_okq (⟨"ChairPast$Foresight", "weightOf", "(II)I"⟩, 8) := ⟨⟨by decide +kernel, by decide +kernel⟩, List.mem_of_getElem? (i := 223) (by decide +kernel), List.mem_of_getElem? (i := 803) (by decide +kernel), List.mem_of_getElem? (i := 804) (by decide +kernel)⟩
theorem lw_p29 : lw_okq (⟨"ChairPast$Foresight", "drawnBearing", "(J)I"⟩, 8) := ⟨⟨by decide +kernel, by decide +kernel⟩, List.mem_of_getElem? (i := 223) (by decide +kernel), List.mem_of_getElem? (i := 821) (by decide +kernel), List.mem_of_getElem? (i := 822) (by decide +kernel)⟩
theorem lw_p30 : lw_okq (⟨"ChairPast", "rowsThere", "()I"⟩, 12) := ⟨⟨by decide +kernel, by decide +kernel⟩, List.mem_of_getElem? (i := 18) (by decide +kernel), List.mem_of_getElem? (i := 910) (by decide +kernel), List.mem_of_getElem? (i := 911) (by decide +kernel)⟩
theorem lw_p31 : lw_okq (⟨"ChairPastModel", "found", "(I)I"⟩, 24) := ⟨⟨by decide +kernel, by decide +kernel⟩, List.mem_of_getElem? (i := 920) (by decide +kernel), List.mem_of_getElem? (i := 1012) (by decide +kernel), List.mem_of_getElem? (i := 1013) (by decide +kernel)⟩
def lw_privs_2 : List (MethodName × Nat) := [(⟨"ChairPast$Room", "isTrio", "(I)Z"⟩, 9), (⟨"ChairPast$Foresight", "bearOnStool", "(I)I"⟩, 8), (⟨"ChairPast$Foresight", "startTrial", "()V"⟩, 8), (⟨"ChairPast$Foresight", "seatFrom", "(I)V"⟩, 8), (⟨"ChairPast$Foresight", "weighTrial", "()V"⟩, 8), (⟨"ChairPast$Foresight", "spellSitters", "(II)V"⟩, 8), (⟨"ChairPast$Foresight", "bearingBehind", "(III)I"⟩, 8), (⟨"ChairPast", "findingOf", "(III)I"⟩, 12), (⟨"ChairPast$Foresight", "ownGives", "(I[II)Z"⟩, 8), (⟨"ChairPast$Foresight", "alterStool", "(II)V"⟩, 8), (⟨"ChairPast$Foresight", "stoolGives", "([II)Z"⟩, 8), (⟨"ChairPast$Foresight", "peaceIfRecaned", "(I)I"⟩, 8), (⟨"ChairPast$Foresight", "weightOf", "(II)I"⟩, 8), (⟨"ChairPast$Foresight", "drawnBearing", "(J)I"⟩, 8), (⟨"ChairPast", "rowsThere", "()I"⟩, 12), (⟨"ChairPastModel", "found", "(I)I"⟩, 24)]
theorem lw_r2 : ∀ q ∈ lw_privs_2, lw_okq q := List.forall_mem_cons.mpr ⟨lw_p16, List.forall_mem_cons.mpr ⟨lw_p17, List.forall_mem_cons.mpr ⟨lw_p18, List.forall_mem_cons.mpr ⟨lw_p19, List.forall_mem_cons.mpr ⟨lw_p20, List.forall_mem_cons.mpr ⟨lw_p21, List.forall_mem_cons.mpr ⟨lw_p22, List.forall_mem_cons.mpr ⟨lw_p23, List.forall_mem_cons.mpr ⟨lw_p24, List.forall_mem_cons.mpr ⟨lw_p25, List.forall_mem_cons.mpr ⟨lw_p26, List.forall_mem_cons.mpr ⟨lw_p27, List.forall_mem_cons.mpr ⟨lw_p28, List.forall_mem_cons.mpr ⟨lw_p29, List.forall_mem_cons.mpr ⟨lw_p30, List.forall_mem_cons.mpr ⟨lw_p31, fun _ h => absurd h List.not_mem_nil⟩⟩⟩⟩⟩⟩⟩⟩⟩⟩⟩⟩⟩⟩⟩⟩
theorem lw_p32 : lw_okq (⟨"ChairPastModel", "well", "(I)I"⟩, 24) := ⟨⟨by decide +kernel, by decide +kernel⟩, List.mem_of_getElem? (i := 920) (by decide +kernel), List.mem_of_getElem? (i := 1017) (by decide +kernel), List.mem_of_getElem? (i := 1018) (by decide +kernel)⟩
theorem lw_p33 : lw_okq (⟨"ChairPastModel", "isMissing", "(I)Z"⟩, 24) := ⟨⟨by decide +kernel, by decide +kernel⟩, List.mem_of_getElem? (i := 920) (by decide +kernel), List.mem_of_getElem? (i := 1025) (by decide +kernel), List.mem_of_getElem? (i := 1026) (by decide +kernel)⟩
theorem lw_p34 : lw_okq (⟨"ChairPastModel", "isPart", "(III)Z"⟩, 24) := ⟨⟨by decide +kernel, by decide +kernel⟩, List.mem_of_getElem? (i := 920) (by decide +kernel), List.mem_of_getElem? (i := 1036) (by decide +kernel), List.mem_of_getElem? (i := 1037) (by decide +kernel)⟩
theorem lw_p35 : lw_okq (⟨"ChairPastModel", "advances", "()V"⟩, 24) := ⟨⟨by decide +kernel, by decide +kernel⟩, List.mem_of_getElem? (i := 920) (by decide +kernel), List.mem_of_getElem? (i := 1053) (by decide +kernel), List.mem_of_getElem? (i := 1054) (by decide +kernel)⟩
theorem lw_p36 : lw_okq (⟨"ChairPastModel", "byteAt", "(I)I"⟩, 24) := ⟨⟨by decide +kernel, by decide +kernel⟩, List.mem_of_getElem? (i := 920) (by decide +kernel), List.mem_of_getElem? (i := 1057) (by decide +kernel), List.mem_of_getElem? (i := 1058) (by decide +kernel)⟩
theorem lw_p37 : lw_okq (⟨"ChairPastModel", "takes", "(ZI)I"⟩, 24) := ⟨⟨by decide +kernel, by decide +kernel⟩, List.mem_of_getElem? (i := 920) (by decide +kernel), List.mem_of_getElem? (i := 1061) (by decide +kernel), List.mem_of_getElem? (i := 1062) (by decide +kernel)⟩
theorem lw_p38 : lw_okq (⟨"ChairPastModel", "isWell", "()Z"⟩, 24) := ⟨⟨by decide +kernel, by decide +kernel⟩, List.mem_of_getElem? (i := 920) (by decide +kernel), List.mem_of_getElem? (i := 1065) (by decide +kernel), List.mem_of_getElem? (i := 1066) (by decide +kernel)⟩
theorem lw_p39 : lw_okq (⟨"ChairPastModel", "figure", "(II)I"⟩, 24) := ⟨⟨by decide +kernel, by decide +kernel⟩, List.mem_of_getElem? (i := 920) (by decide +kernel), List.mem_of_getElem? (i := 1069) (by decide +kernel), List.mem_of_getElem? (i := 1070) (by decide +kernel)⟩
theorem lw_p40 : lw_okq (⟨"ChairPastModel", "must", "(Z)V"⟩, 24) := ⟨⟨by decide +kernel, by decide +kernel⟩, List.mem_of_getElem? (i := 920) (by decide +kernel), List.mem_of_getElem? (i := 1076) (by decide +kernel), List.mem_of_getElem? (i := 1077) (by decide +kernel)⟩
theorem lw_p41 : lw_okq (⟨"ChairPastModel", "readsChair", "()V"⟩, 24) := ⟨⟨by decide +kernel, by decide +kernel⟩, List.mem_of_getElem? (i := 920) (by decide +kernel), List.mem_of_getElem? (i := 1080) (by decide +kernel), List.mem_of_getElem? (i := 1081) (by decide +kernel)⟩
theorem lw_p42 : lw_okq (⟨"ChairPastModel", "follows", "(II)I"⟩, 24) := ⟨⟨by decide +kernel, by decide +kernel⟩, List.mem_of_getElem? (i := 920) (by decide +kernel), List.mem_of_getElem? (i := 1084) (by decide +kernel), List.mem_of_getElem? (i := 1085) (by decide +kernel)⟩
theorem lw_p43 : lw_okq (⟨"ChairPastModel", "readsGuest", "()V"⟩, 24) := ⟨⟨by decide +kernel, by decide +kernel⟩, List.mem_of_getElem? (i := 920) (by decide +kernel), List.mem_of_getElem? (i := 1088) (by decide +kernel), List.mem_of_getElem? (i := 1089) (by decide +kernel)⟩
theorem lw_p44 : lw_okq (⟨"ChairPastModel", "isGuest", "(I)Z"⟩, 24) := ⟨⟨by decide +kernel, by decide +kernel⟩, List.mem_of_getElem? (i := 920) (by decide +kernel), List.mem_of_getElem? (i := 1104) (by decide +kernel), List.mem_of_getElem? (i := 1105) (by decide +kernel)⟩
theorem lw_p45 : lw_okq (⟨"ChairPastModel", "isChair", "(I)Z"⟩, 24) := ⟨⟨by decide +kernel, by decide +kernel⟩, List.mem_of_getElem? (i := 920) (by decide +kernel), List.mem_of_getElem? (i := 1108) (by decide +kernel), List.mem_of_getElem? (i := 1109) (by decide +kernel)⟩
theorem lw_p46 : lw_okq (⟨"ChairPastModel", "notes", "()V"⟩, 24) := ⟨⟨by decide +kernel, by decide +kernel⟩, List.mem_of_getElem? (i := 920) (by decide +kernel), List.mem_of_getElem? (i := 1116) (by decide +kernel), List.mem_of_getElem? (i := 1117) (by decide +kernel)⟩
theorem lw_p47 : lw_okq (⟨"ChairPastModel", "isRoom", "()Z"⟩, 24) := ⟨⟨by decide +kernel, by decide +kernel⟩, List.mem_of_getElem? (i := 920) (by decide +kernel), List.mem_of_getElem? (i := 1166) (by decide +kernel), List.mem_of_getElem? (i := 1167) (by decide +kernel)⟩
def lw_privs_3 : List (MethodName × Nat) := [(⟨"ChairPastModel", "well", "(I)I"⟩, 24), (⟨"ChairPastModel", "isMissing", "(I)Z"⟩, 24), (⟨"ChairPastModel", "isPart", "(III)Z"⟩, 24), (⟨"ChairPastModel", "advances", "()V"⟩, 24), (⟨"ChairPastModel", "byteAt", "(I)I"⟩, 24), (⟨"ChairPastModel", "takes", "(ZI)I"⟩, 24), (⟨"ChairPastModel", "isWell", "()Z"⟩, 24), (⟨"ChairPastModel", "figure", "(II)I"⟩, 24), (⟨"ChairPastModel", "must", "(Z)V"⟩, 24), (⟨"ChairPastModel", "readsChair", "()V"⟩, 24), (⟨"ChairPastModel", "follows", "(II)I"⟩, 24), (⟨"ChairPastModel", "readsGuest", "()V"⟩, 24), (⟨"ChairPastModel", "isGuest", "(I)Z"⟩, 24), (⟨"ChairPastModel", "isChair", "(I)Z"⟩, 24), (⟨"ChairPastModel", "notes", "()V"⟩, 24), (⟨"ChairPastModel", "isRoom", "()Z"⟩, 24)]
theorem lw_r3 : ∀ q ∈ lw_privs_3, lw_okq q := List.forall_mem_cons.mpr ⟨lw_p32, List.forall_mem_cons.mpr ⟨lw_p33, List.forall_mem_cons.mpr ⟨lw_p34, List.forall_mem_cons.mpr ⟨lw_p35, List.forall_mem_cons.mpr ⟨lw_p36, List.forall_mem_cons.mpr ⟨lw_p37, List.forall_mem_cons.mpr ⟨lw_p38, List.forall_mem_cons.mpr ⟨lw_p39, List.forall_mem_cons.mpr ⟨lw_p40, List.forall_mem_cons.mpr ⟨lw_p41, List.forall_mem_cons.mpr ⟨lw_p42, List.forall_mem_cons.mpr ⟨lw_p43, List.forall_mem_cons.mpr ⟨lw_p44, List.forall_mem_cons.mpr ⟨lw_p45, List.forall_mem_cons.mpr ⟨lw_p46, List.forall_mem_cons.mpr ⟨lw_p47, fun _ h => absurd h List.not_mem_nil⟩⟩⟩⟩⟩⟩⟩⟩⟩⟩⟩⟩⟩⟩⟩⟩
theorem lw_p48 : lw_okq (⟨"ChairPastModel", "seats", "()Z"⟩, 24) := ⟨⟨by decide +kernel, by decide +kernel⟩, List.mem_of_getElem? (i := 920) (by decide +kernel), List.mem_of_getElem? (i := 1178) (by decide +kernel), List.mem_of_getElem? (i := 1179) (by decide +kernel)⟩
theorem lw_p49 : lw_okq (⟨"ChairPastModel", "counts", "(II)Z"⟩, 24) := ⟨⟨by decide +kernel, by decide +kernel⟩, List.mem_of_getElem? (i := 920) (by decide +kernel), List.mem_of_getElem? (i := 1182) (by decide +kernel), List.mem_of_getElem? (i := 1183) (by decide +kernel)⟩
theorem lw_p50 : lw_okq (⟨"ChairPastModel", "isLeft", "(III)Z"⟩, 24) := ⟨⟨by decide +kernel, by decide +kernel⟩, List.mem_of_getElem? (i := 920) (by decide +kernel), List.mem_of_getElem? (i := 1198) (by decide +kernel), List.mem_of_getElem? (i := 1199) (by decide +kernel)⟩
theorem lw_p51 : lw_okq (⟨"ChairPastModel", "sitDown", "()V"⟩, 24) := ⟨⟨by decide +kernel, by decide +kernel⟩, List.mem_of_getElem? (i := 920) (by decide +kernel), List.mem_of_getElem? (i := 1221) (by decide +kernel), List.mem_of_getElem? (i := 1222) (by decide +kernel)⟩
theorem lw_p52 : lw_okq (⟨"ChairPastModel", "kindIn", "(I)I"⟩, 24) := ⟨⟨by decide +kernel, by decide +kernel⟩, List.mem_of_getElem? (i := 920) (by decide +kernel), List.mem_of_getElem? (i := 1244) (by decide +kernel), List.mem_of_getElem? (i := 1245) (by decide +kernel)⟩
theorem lw_p53 : lw_okq (⟨"ChairPastModel", "throneSize", "(I)I"⟩, 24) := ⟨⟨by decide +kernel, by decide +kernel⟩, List.mem_of_getElem? (i := 920) (by decide +kernel), List.mem_of_getElem? (i := 1256) (by decide +kernel), List.mem_of_getElem? (i := 1257) (by decide +kernel)⟩
theorem lw_p54 : lw_okq (⟨"ChairPastModel", "begins", "(I)V"⟩, 24) := ⟨⟨by decide +kernel, by decide +kernel⟩, List.mem_of_getElem? (i := 920) (by decide +kernel), List.mem_of_getElem? (i := 1260) (by decide +kernel), List.mem_of_getElem? (i := 1261) (by decide +kernel)⟩
theorem lw_p55 : lw_okq (⟨"ChairPastModel", "plainSize", "(I)I"⟩, 24) := ⟨⟨by decide +kernel, by decide +kernel⟩, List.mem_of_getElem? (i := 920) (by decide +kernel), List.mem_of_getElem? (i := 1264) (by decide +kernel), List.mem_of_getElem? (i := 1265) (by decide +kernel)⟩
theorem lw_p56 : lw_okq (⟨"ChairPastModel", "plainMark", "(I)I"⟩, 24) := ⟨⟨by decide +kernel, by decide +kernel⟩, List.mem_of_getElem? (i := 920) (by decide +kernel), List.mem_of_getElem? (i := 1268) (by decide +kernel), List.mem_of_getElem? (i := 1269) (by decide +kernel)⟩
theorem lw_p57 : lw_okq (⟨"ChairPastModel", "throneMark", "(I)I"⟩, 24) := ⟨⟨by decide +kernel, by decide +kernel⟩, List.mem_of_getElem? (i := 920) (by decide +kernel), List.mem_of_getElem? (i := 1272) (by decide +kernel), List.mem_of_getElem? (i := 1273) (by decide +kernel)⟩
theorem lw_p58 : lw_okq (⟨"ChairPastModel", "sitting", "()I"⟩, 24) := ⟨⟨by decide +kernel, by decide +kernel⟩, List.mem_of_getElem? (i := 920) (by decide +kernel), List.mem_of_getElem? (i := 1284) (by decide +kernel), List.mem_of_getElem? (i := 1285) (by decide +kernel)⟩
theorem lw_p59 : lw_okq (⟨"ChairPastModel", "takenChairs", "()I"⟩, 24) := ⟨⟨by decide +kernel, by decide +kernel⟩, List.mem_of_getElem? (i := 920) (by decide +kernel), List.mem_of_getElem? (i := 1288) (by decide +kernel), List.mem_of_getElem? (i := 1289) (by decide +kernel)⟩
def lw_privs_4 : List (MethodName × Nat) := [(⟨"ChairPastModel", "seats", "()Z"⟩, 24), (⟨"ChairPastModel", "counts", "(II)Z"⟩, 24), (⟨"ChairPastModel", "isLeft", "(III)Z"⟩, 24), (⟨"ChairPastModel", "sitDown", "()V"⟩, 24), (⟨"ChairPastModel", "kindIn", "(I)I"⟩, 24), (⟨"ChairPastModel", "throneSize", "(I)I"⟩, 24), (⟨"ChairPastModel", "begins", "(I)V"⟩, 24), (⟨"ChairPastModel", "plainSize", "(I)I"⟩, 24), (⟨"ChairPastModel", "plainMark", "(I)I"⟩, 24), (⟨"ChairPastModel", "throneMark", "(I)I"⟩, 24), (⟨"ChairPastModel", "sitting", "()I"⟩, 24), (⟨"ChairPastModel", "takenChairs", "()I"⟩, 24)]
theorem lw_r4 : ∀ q ∈ lw_privs_4, lw_okq q := List.forall_mem_cons.mpr ⟨lw_p48, List.forall_mem_cons.mpr ⟨lw_p49, List.forall_mem_cons.mpr ⟨lw_p50, List.forall_mem_cons.mpr ⟨lw_p51, List.forall_mem_cons.mpr ⟨lw_p52, List.forall_mem_cons.mpr ⟨lw_p53, List.forall_mem_cons.mpr ⟨lw_p54, List.forall_mem_cons.mpr ⟨lw_p55, List.forall_mem_cons.mpr ⟨lw_p56, List.forall_mem_cons.mpr ⟨lw_p57, List.forall_mem_cons.mpr ⟨lw_p58, List.forall_mem_cons.mpr ⟨lw_p59, fun _ h => absurd h List.not_mem_nil⟩⟩⟩⟩⟩⟩⟩⟩⟩⟩⟩⟩
def lw_privs : List (MethodName × Nat) := lw_privs_1 ++ (lw_privs_2 ++ (lw_privs_3 ++ (lw_privs_4)))
def lw_tbl : List Cond := k2_sels lw_privs ++ tables_1
theorem lw_privs_ok : ∀ q ∈ lw_privs, lw_okq q := by
  show ∀ q ∈ lw_privs_1 ++ (lw_privs_2 ++ (lw_privs_3 ++ (lw_privs_4))), lw_okq q
  exact List.forall_mem_append.mpr ⟨lw_r1, List.forall_mem_append.mpr ⟨lw_r2, List.forall_mem_append.mpr ⟨lw_r3, lw_r4⟩⟩⟩
end
section
def RX0 : String := "ChairPast$Barbers"
def TX0 : u_T := fun k => match k with
  | _ => ("", "", "", false)
def tyX0 : Nat → FieldType := fun k => match k with
  | _ => .int
theorem nmX0 : ∀ a, a < 0 → ∀ b, b < 0 → a ≠ b → (TX0 a).2.1 ≠ (TX0 b).2.1 := by decide +kernel
theorem tyX0_ok : ∀ k, k < 0 → parseFieldDescriptor (TX0 k).2.2.1 = some (tyX0 k) := by decide +kernel
def RX1 : String := "ChairPast$Chair"
def TX1 : u_T := fun k => match k with
  | 0 => ("ChairPast$Chair", "kind", "LChairPast$Kind;", false)
  | 1 => ("ChairPast$Chair", "manner", "I", false)
  | 2 => ("ChairPast$Chair", "strength", "I", false)
  | 3 => ("ChairPast$Chair", "suite", "I", false)
  | 4 => ("ChairPast$Chair", "sat", "I", false)
  | _ => ("ChairPast$Chair", "sitter", "I", false)
def tyX1 : Nat → FieldType := fun k => match k with
  | 0 => .object "ChairPast$Kind"
  | 1 => .int
  | 2 => .int
  | 3 => .int
  | 4 => .int
  | _ => .int
theorem nmX1 : ∀ a, a < 6 → ∀ b, b < 6 → a ≠ b → (TX1 a).2.1 ≠ (TX1 b).2.1 := by decide +kernel
theorem tyX1_ok : ∀ k, k < 6 → parseFieldDescriptor (TX1 k).2.2.1 = some (tyX1 k) := by decide +kernel
def RX2 : String := "ChairPast$Dentists"
def TX2 : u_T := fun k => match k with
  | _ => ("", "", "", false)
def tyX2 : Nat → FieldType := fun k => match k with
  | _ => .int
theorem nmX2 : ∀ a, a < 0 → ∀ b, b < 0 → a ≠ b → (TX2 a).2.1 ≠ (TX2 b).2.1 := by decide +kernel
theorem tyX2_ok : ∀ k, k < 0 → parseFieldDescriptor (TX2 k).2.2.1 = some (tyX2 k) := by decide +kernel
def RX3 : String := "ChairPast$Foresight"
def TX3 : u_T := fun k => match k with
  | 0 => ("ChairPast$Foresight", "now", "LChairPast$Room;", true)
  | 1 => ("ChairPast$Foresight", "trial", "LChairPast$Room;", true)
  | 2 => ("ChairPast$Foresight", "kinds", "[LChairPast$Kind;", true)
  | 3 => ("ChairPast$Foresight", "stool", "LChairPast$Chair;", true)
  | 4 => ("ChairPast$Foresight", "page", "LChairPast$Line;", true)
  | 5 => ("ChairPast$Foresight", "sitters", "[I", true)
  | 6 => ("ChairPast$Foresight", "bestPlaces", "[I", true)
  | _ => ("ChairPast$Foresight", "bestPeace", "I", false)
def tyX3 : Nat → FieldType := fun k => match k with
  | 0 => .object "ChairPast$Room"
  | 1 => .object "ChairPast$Room"
  | 2 => .array (.object "ChairPast$Kind")
  | 3 => .object "ChairPast$Chair"
  | 4 => .object "ChairPast$Line"
  | 5 => .array .int
  | 6 => .array .int
  | _ => .int
theorem nmX3 : ∀ a, a < 8 → ∀ b, b < 8 → a ≠ b → (TX3 a).2.1 ≠ (TX3 b).2.1 := by decide +kernel
theorem tyX3_ok : ∀ k, k < 8 → parseFieldDescriptor (TX3 k).2.2.1 = some (tyX3 k) := by decide +kernel
def RX4 : String := "ChairPast$Kind"
def TX4 : u_T := fun k => match k with
  | _ => ("", "", "", false)
def tyX4 : Nat → FieldType := fun k => match k with
  | _ => .int
theorem nmX4 : ∀ a, a < 0 → ∀ b, b < 0 → a ≠ b → (TX4 a).2.1 ≠ (TX4 b).2.1 := by decide +kernel
theorem tyX4_ok : ∀ k, k < 0 → parseFieldDescriptor (TX4 k).2.2.1 = some (tyX4 k) := by decide +kernel
def RX5 : String := "ChairPast$Line"
def TX5 : u_T := fun k => match k with
  | 0 => ("ChairPast$Line", "items", "[I", true)
  | 1 => ("ChairPast$Line", "size", "I", false)
  | _ => ("ChairPast$Line", "mark", "I", false)
def tyX5 : Nat → FieldType := fun k => match k with
  | 0 => .array .int
  | 1 => .int
  | _ => .int
theorem nmX5 : ∀ a, a < 3 → ∀ b, b < 3 → a ≠ b → (TX5 a).2.1 ≠ (TX5 b).2.1 := by decide +kernel
theorem tyX5_ok : ∀ k, k < 3 → parseFieldDescriptor (TX5 k).2.2.1 = some (tyX5 k) := by decide +kernel
def RX6 : String := "ChairPast$Plain"
def TX6 : u_T := fun k => match k with
  | _ => ("", "", "", false)
def tyX6 : Nat → FieldType := fun k => match k with
  | _ => .int
theorem nmX6 : ∀ a, a < 0 → ∀ b, b < 0 → a ≠ b → (TX6 a).2.1 ≠ (TX6 b).2.1 := by decide +kernel
theorem tyX6_ok : ∀ k, k < 0 → parseFieldDescriptor (TX6 k).2.2.1 = some (tyX6 k) := by decide +kernel
def RX7 : String := "ChairPast$Reader"
def TX7 : u_T := fun k => match k with
  | 0 => ("ChairPast$Reader", "tape", "LChairPast$Line;", true)
  | 1 => ("ChairPast$Reader", "page", "LChairPast$Line;", true)
  | 2 => ("ChairPast$Reader", "draft", "LChairPast$Room;", true)
  | 3 => ("ChairPast$Reader", "at", "I", false)
  | _ => ("ChairPast$Reader", "mistake", "I", false)
def tyX7 : Nat → FieldType := fun k => match k with
  | 0 => .object "ChairPast$Line"
  | 1 => .object "ChairPast$Line"
  | 2 => .object "ChairPast$Room"
  | 3 => .int
  | _ => .int
theorem nmX7 : ∀ a, a < 5 → ∀ b, b < 5 → a ≠ b → (TX7 a).2.1 ≠ (TX7 b).2.1 := by decide +kernel
theorem tyX7_ok : ∀ k, k < 5 → parseFieldDescriptor (TX7 k).2.2.1 = some (tyX7 k) := by decide +kernel
def RX8 : String := "ChairPast$Rocker"
def TX8 : u_T := fun k => match k with
  | _ => ("", "", "", false)
def tyX8 : Nat → FieldType := fun k => match k with
  | _ => .int
theorem nmX8 : ∀ a, a < 0 → ∀ b, b < 0 → a ≠ b → (TX8 a).2.1 ≠ (TX8 b).2.1 := by decide +kernel
theorem tyX8_ok : ∀ k, k < 0 → parseFieldDescriptor (TX8 k).2.2.1 = some (tyX8 k) := by decide +kernel
def RX9 : String := "ChairPast$Room"
def TX9 : u_T := fun k => match k with
  | 0 => ("ChairPast$Room", "kinds", "[LChairPast$Kind;", true)
  | 1 => ("ChairPast$Room", "chairs", "[LChairPast$Chair;", true)
  | 2 => ("ChairPast$Room", "own", "[I", true)
  | 3 => ("ChairPast$Room", "will", "[I", true)
  | 4 => ("ChairPast$Room", "place", "[I", true)
  | 5 => ("ChairPast$Room", "bearing", "[I", true)
  | 6 => ("ChairPast$Room", "chairCount", "I", false)
  | 7 => ("ChairPast$Room", "guestCount", "I", false)
  | _ => ("ChairPast$Room", "strife", "I", false)
def tyX9 : Nat → FieldType := fun k => match k with
  | 0 => .array (.object "ChairPast$Kind")
  | 1 => .array (.object "ChairPast$Chair")
  | 2 => .array .int
  | 3 => .array .int
  | 4 => .array .int
  | 5 => .array .int
  | 6 => .int
  | 7 => .int
  | _ => .int
theorem nmX9 : ∀ a, a < 9 → ∀ b, b < 9 → a ≠ b → (TX9 a).2.1 ≠ (TX9 b).2.1 := by decide +kernel
theorem tyX9_ok : ∀ k, k < 9 → parseFieldDescriptor (TX9 k).2.2.1 = some (tyX9 k) := by decide +kernel
def RX10 : String := "ChairPast$Throne"
def TX10 : u_T := fun k => match k with
  | _ => ("", "", "", false)
def tyX10 : Nat → FieldType := fun k => match k with
  | _ => .int
theorem nmX10 : ∀ a, a < 0 → ∀ b, b < 0 → a ≠ b → (TX10 a).2.1 ≠ (TX10 b).2.1 := by decide +kernel
theorem tyX10_ok : ∀ k, k < 0 → parseFieldDescriptor (TX10 k).2.2.1 = some (tyX10 k) := by decide +kernel
def RX11 : String := "ChairPast"
def TX11 : u_T := fun k => match k with
  | 0 => ("ChairPast", "rows", "[LChairPast$Line;", true)
  | 1 => ("ChairPast", "lanes", "[I", true)
  | 2 => ("ChairPast", "bodies", "LChairPast$Line;", true)
  | 3 => ("ChairPast", "images", "[LChairPast$Line;", true)
  | 4 => ("ChairPast", "acts", "[LChairPast$Line;", true)
  | 5 => ("ChairPast", "now", "LChairPast$Room;", true)
  | 6 => ("ChairPast", "reader", "LChairPast$Reader;", true)
  | 7 => ("ChairPast", "foresight", "LChairPast$Foresight;", true)
  | 8 => ("ChairPast", "oldestAct", "I", false)
  | 9 => ("ChairPast", "actsKept", "I", false)
  | 10 => ("ChairPast", "latestFault", "I", false)
  | _ => ("ChairPast", "latestFinding", "I", false)
def tyX11 : Nat → FieldType := fun k => match k with
  | 0 => .array (.object "ChairPast$Line")
  | 1 => .array .int
  | 2 => .object "ChairPast$Line"
  | 3 => .array (.object "ChairPast$Line")
  | 4 => .array (.object "ChairPast$Line")
  | 5 => .object "ChairPast$Room"
  | 6 => .object "ChairPast$Reader"
  | 7 => .object "ChairPast$Foresight"
  | 8 => .int
  | 9 => .int
  | 10 => .int
  | _ => .int
theorem nmX11 : ∀ a, a < 12 → ∀ b, b < 12 → a ≠ b → (TX11 a).2.1 ≠ (TX11 b).2.1 := by decide +kernel
theorem tyX11_ok : ∀ k, k < 12 → parseFieldDescriptor (TX11 k).2.2.1 = some (tyX11 k) := by decide +kernel
def RX12 : String := "ChairPastModel"
def TX12 : u_T := fun k => match k with
  | 0 => ("ChairPastModel", "lane", "[I", true)
  | 1 => ("ChairPastModel", "many", "[I", true)
  | 2 => ("ChairPastModel", "items", "[I", true)
  | 3 => ("ChairPastModel", "spare", "[I", true)
  | 4 => ("ChairPastModel", "status", "I", false)
  | 5 => ("ChairPastModel", "tape", "[I", true)
  | 6 => ("ChairPastModel", "taped", "I", false)
  | 7 => ("ChairPastModel", "faultKind", "I", false)
  | 8 => ("ChairPastModel", "faultPlace", "I", false)
  | 9 => ("ChairPastModel", "at", "I", false)
  | 10 => ("ChairPastModel", "start", "I", false)
  | 11 => ("ChairPastModel", "token", "I", false)
  | 12 => ("ChairPastModel", "value", "I", false)
  | 13 => ("ChairPastModel", "now", "[I", true)
  | 14 => ("ChairPastModel", "draft", "[I", true)
  | 15 => ("ChairPastModel", "tried", "[I", true)
  | 16 => ("ChairPastModel", "past", "[I", true)
  | 17 => ("ChairPastModel", "acts", "I", false)
  | 18 => ("ChairPastModel", "images", "[I", true)
  | 19 => ("ChairPastModel", "kept", "[Z", true)
  | 20 => ("ChairPastModel", "line", "[I", true)
  | 21 => ("ChairPastModel", "best", "[I", true)
  | 22 => ("ChairPastModel", "trace", "[I", true)
  | _ => ("ChairPastModel", "traced", "I", false)
def tyX12 : Nat → FieldType := fun k => match k with
  | 0 => .array .int
  | 1 => .array .int
  | 2 => .array .int
  | 3 => .array .int
  | 4 => .int
  | 5 => .array .int
  | 6 => .int
  | 7 => .int
  | 8 => .int
  | 9 => .int
  | 10 => .int
  | 11 => .int
  | 12 => .int
  | 13 => .array .int
  | 14 => .array .int
  | 15 => .array .int
  | 16 => .array .int
  | 17 => .int
  | 18 => .array .int
  | 19 => .array .boolean
  | 20 => .array .int
  | 21 => .array .int
  | 22 => .array .int
  | _ => .int
theorem nmX12 : ∀ a, a < 24 → ∀ b, b < 24 → a ≠ b → (TX12 a).2.1 ≠ (TX12 b).2.1 := by decide +kernel
theorem tyX12_ok : ∀ k, k < 24 → parseFieldDescriptor (TX12 k).2.2.1 = some (tyX12 k) := by decide +kernel
def RJ6 : String := "java/lang/Integer"
def RJ9 : String := "java/lang/Math"
def RJ10 : String := "java/lang/System"

abbrev jcl : List vw_C := [(RX0, TX0, 0), (RX1, TX1, 6), (RX2, TX2, 0), (RX3, TX3, 8), (RX5, TX5, 3), (RX6, TX6, 0), (RX7, TX7, 5), (RX8, TX8, 0), (RX9, TX9, 9), (RX10, TX10, 0), (RX11, TX11, 12), (RX12, TX12, 24)]

def oN (o : Nat) : String := match o with
  | 0 => RX0
  | 1 => RX1
  | 2 => RX2
  | 3 => RX3
  | 4 => RX4
  | 5 => RX5
  | 6 => RX6
  | 7 => RX7
  | 8 => RX8
  | 9 => RX9
  | 10 => RX10
  | 11 => RX11
  | 12 => RX12
  | 13 => RJ6
  | _ => RJ9

abbrev jM : Type := MethodName × ByteArray × Nat × Option FieldType × Nat × Nat

def mTl0 : List jM := [
  (⟨RX0, "<init>", "()V"⟩, prog_2_method_1_code, 1, none, 0, 0),
  (⟨RX0, "number", "()I"⟩, prog_2_method_2_code, 1, (some .int), 0, 0),
  (⟨RX0, "bearingOn", "(LChairPast$Chair;I)I"⟩, prog_2_method_3_code, 3, (some .int), 0, 2),
  (⟨RX0, "wear", "(LChairPast$Chair;)V"⟩, prog_2_method_4_code, 2, none, 0, 1),
  (⟨RX0, "markOf", "(LChairPast$Chair;LChairPast$Line;)I"⟩, prog_2_method_5_code, 3, (some .int), 0, 2),
  (⟨RX0, "mannerAfter", "(I)I"⟩, prog_2_method_6_code, 1, (some .int), 0, 1),
  (⟨RX1, "<init>", "(LChairPast$Kind;)V"⟩, prog_3_method_1_code, 2, none, 1, 1),
  (⟨RX1, "bearingOf", "(I)I"⟩, prog_3_method_2_code, 2, (some .int), 1, 1),
  (⟨RX1, "bear", "(II)I"⟩, prog_3_method_3_code, 4, (some .int), 1, 2),
  (⟨RX1, "isLike", "(II)Z"⟩, prog_3_method_4_code, 3, (some .boolean), 1, 2),
  (⟨RX1, "takeAfter", "(LChairPast$Chair;)V"⟩, prog_3_method_5_code, 2, none, 1, 1),
  (⟨RX1, "writeTo", "(LChairPast$Line;)V"⟩, prog_3_method_6_code, 2, none, 1, 1),
  (⟨RX1, "readFrom", "(LChairPast$Line;[LChairPast$Kind;)V"⟩, prog_3_method_7_code, 4, none, 1, 2),
  (⟨RX2, "<init>", "()V"⟩, prog_4_method_1_code, 1, none, 2, 0),
  (⟨RX2, "number", "()I"⟩, prog_4_method_2_code, 1, (some .int), 2, 0),
  (⟨RX2, "bearingOn", "(LChairPast$Chair;I)I"⟩, prog_4_method_3_code, 3, (some .int), 2, 2),
  (⟨RX2, "sizeOf", "(LChairPast$Chair;LChairPast$Line;)I"⟩, prog_4_method_4_code, 3, (some .int), 2, 2),
  (⟨RX3, "<init>", "(LChairPast$Room;[LChairPast$Kind;)V"⟩, prog_5_method_1_code, 3, none, 3, 2),
  (⟨RX3, "startTrial", "()V"⟩, prog_5_method_2_code, 1, none, 3, 0),
  (⟨RX3, "bearOnStool", "(I)I"⟩, prog_5_method_3_code, 2, (some .int), 3, 1),
  (⟨RX3, "wouldBe", "(III)I"⟩, prog_5_method_4_code, 5, (some .int), 3, 3),
  (⟨RX3, "bestSeating", "(I)I"⟩, prog_5_method_5_code, 4, (some .int), 3, 1),
  (⟨RX3, "seatFrom", "(I)V"⟩, prog_5_method_6_code, 3, none, 3, 1),
  (⟨RX3, "weighTrial", "()V"⟩, prog_5_method_7_code, 3, none, 3, 0),
  (⟨RX3, "fewestSittings", "(III)I"⟩, prog_5_method_8_code, 7, (some .int), 3, 3),
  (⟨RX3, "sitterOf", "(I)I"⟩, prog_5_method_9_code, 2, (some .int), 3, 1),
  (⟨RX3, "spellSitters", "(II)V"⟩, prog_5_method_10_code, 6, none, 3, 2),
  (⟨RX3, "bearingBehind", "(III)I"⟩, prog_5_method_11_code, 5, (some .int), 3, 3),
  (⟨RX3, "sittingsToOwn", "(II)I"⟩, prog_5_method_12_code, 4, (some .int), 3, 2),
  (⟨RX3, "sittersLeaving", "(III)I"⟩, prog_5_method_13_code, 6, (some .int), 3, 3),
  (⟨RX3, "pairsLeaving", "(III)I"⟩, prog_5_method_14_code, 7, (some .int), 3, 3),
  (⟨RX3, "ownsBy", "([II)I"⟩, prog_5_method_15_code, 5, (some .int), 3, 2),
  (⟨RX3, "ownGives", "(I[II)Z"⟩, prog_5_method_16_code, 5, (some .boolean), 3, 3),
  (⟨RX3, "fitsBy", "(I[III)I"⟩, prog_5_method_17_code, 9, (some .int), 3, 4),
  (⟨RX3, "alterStool", "(II)V"⟩, prog_5_method_18_code, 3, none, 3, 2),
  (⟨RX3, "stoolGives", "([II)Z"⟩, prog_5_method_19_code, 4, (some .boolean), 3, 2),
  (⟨RX3, "chanceOfPeace", "(III)I"⟩, prog_5_method_20_code, 7, (some .int), 3, 3),
  (⟨RX3, "peaceIfRecaned", "(I)I"⟩, prog_5_method_21_code, 4, (some .int), 3, 1),
  (⟨RX3, "weightOf", "(II)I"⟩, prog_5_method_22_code, 5, (some .int), 3, 2),
  (⟨RX3, "commonDivisor", "(II)I"⟩, prog_5_method_23_code, 6, (some .int), 3, 2),
  (⟨RX3, "eveningOf", "(III)I"⟩, prog_5_method_24_code, 8, (some .int), 3, 3),
  (⟨RX3, "drawnBearing", "(J)I"⟩, prog_5_method_25_code, 5, (some .int), 3, 1),
  (⟨RX4, "<init>", "()V"⟩, prog_6_method_1_code, 1, none, 4, 0),
  (⟨RX4, "sizeOf", "(LChairPast$Chair;LChairPast$Line;)I"⟩, prog_6_method_5_code, 3, (some .int), 4, 2),
  (⟨RX4, "markOf", "(LChairPast$Chair;LChairPast$Line;)I"⟩, prog_6_method_6_code, 3, (some .int), 4, 2),
  (⟨RX5, "<init>", "(I)V"⟩, prog_7_method_1_code, 2, none, 5, 1),
  (⟨RX5, "clear", "()V"⟩, prog_7_method_2_code, 1, none, 5, 0),
  (⟨RX5, "push", "(I)Z"⟩, prog_7_method_3_code, 2, (some .boolean), 5, 1),
  (⟨RX5, "numberAt", "(I)I"⟩, prog_7_method_4_code, 2, (some .int), 5, 1),
  (⟨RX5, "holds", "(II)Z"⟩, prog_7_method_5_code, 3, (some .boolean), 5, 2),
  (⟨RX5, "rewind", "()V"⟩, prog_7_method_6_code, 1, none, 5, 0),
  (⟨RX5, "next", "()I"⟩, prog_7_method_7_code, 1, (some .int), 5, 0),
  (⟨RX6, "<init>", "()V"⟩, prog_8_method_1_code, 1, none, 6, 0),
  (⟨RX6, "number", "()I"⟩, prog_8_method_2_code, 1, (some .int), 6, 0),
  (⟨RX6, "bearingOn", "(LChairPast$Chair;I)I"⟩, prog_8_method_3_code, 3, (some .int), 6, 2),
  (⟨RX6, "wear", "(LChairPast$Chair;)V"⟩, prog_8_method_4_code, 2, none, 6, 1),
  (⟨RX6, "sizeOf", "(LChairPast$Chair;LChairPast$Line;)I"⟩, prog_8_method_5_code, 4, (some .int), 6, 2),
  (⟨RX6, "markOf", "(LChairPast$Chair;LChairPast$Line;)I"⟩, prog_8_method_6_code, 3, (some .int), 6, 2),
  (⟨RX6, "blend", "(III)I"⟩, prog_8_method_7_code, 3, (some .int), 6, 3),
  (⟨RX7, "<init>", "([LChairPast$Kind;)V"⟩, prog_9_method_1_code, 2, none, 7, 1)]

def mTl1 : List jM := [
  (⟨RX7, "readTape", "()Z"⟩, prog_9_method_2_code, 1, (some .boolean), 7, 0),
  (⟨RX7, "draftPage", "()LChairPast$Line;"⟩, prog_9_method_3_code, 1, (some (.object "ChairPast$Line")), 7, 0),
  (⟨RX7, "readLaw", "()V"⟩, prog_9_method_4_code, 1, none, 7, 0),
  (⟨RX7, "readChairs", "()V"⟩, prog_9_method_5_code, 2, none, 7, 0),
  (⟨RX7, "readChair", "()V"⟩, prog_9_method_6_code, 5, none, 7, 0),
  (⟨RX7, "readGuests", "()V"⟩, prog_9_method_7_code, 2, none, 7, 0),
  (⟨RX7, "readGuest", "()V"⟩, prog_9_method_8_code, 3, none, 7, 0),
  (⟨RX7, "readSign", "(I)V"⟩, prog_9_method_9_code, 2, none, 7, 1),
  (⟨RX7, "readNumber", "(II)I"⟩, prog_9_method_10_code, 5, (some .int), 7, 2),
  (⟨RX7, "ahead", "()I"⟩, prog_9_method_11_code, 1, (some .int), 7, 0),
  (⟨RX7, "byteAt", "(I)I"⟩, prog_9_method_12_code, 2, (some .int), 7, 1),
  (⟨RX7, "isFigure", "(I)Z"⟩, prog_9_method_13_code, 1, (some .boolean), 7, 1),
  (⟨RX7, "kindBy", "(I)I"⟩, prog_9_method_14_code, 1, (some .int), 7, 1),
  (⟨RX7, "fail", "(I)V"⟩, prog_9_method_15_code, 2, none, 7, 1),
  (⟨RX8, "<init>", "()V"⟩, prog_10_method_1_code, 1, none, 8, 0),
  (⟨RX8, "number", "()I"⟩, prog_10_method_2_code, 1, (some .int), 8, 0),
  (⟨RX8, "bearingOn", "(LChairPast$Chair;I)I"⟩, prog_10_method_3_code, 3, (some .int), 8, 2),
  (⟨RX8, "sizeOf", "(LChairPast$Chair;LChairPast$Line;)I"⟩, prog_10_method_4_code, 3, (some .int), 8, 2),
  (⟨RX8, "markOf", "(LChairPast$Chair;LChairPast$Line;)I"⟩, prog_10_method_5_code, 3, (some .int), 8, 2),
  (⟨RX9, "<init>", "([LChairPast$Kind;)V"⟩, prog_11_method_1_code, 3, none, 9, 1),
  (⟨RX9, "empty", "()V"⟩, prog_11_method_2_code, 1, none, 9, 0),
  (⟨RX9, "addChair", "(IIII)V"⟩, prog_11_method_3_code, 6, none, 9, 4),
  (⟨RX9, "addGuest", "(II)V"⟩, prog_11_method_4_code, 3, none, 9, 2),
  (⟨RX9, "stands", "()Z"⟩, prog_11_method_5_code, 1, (some .boolean), 9, 0),
  (⟨RX9, "hasChair", "(I)Z"⟩, prog_11_method_6_code, 2, (some .boolean), 9, 1),
  (⟨RX9, "hasGuest", "(I)Z"⟩, prog_11_method_7_code, 2, (some .boolean), 9, 1),
  (⟨RX9, "isSeated", "(I)Z"⟩, prog_11_method_8_code, 2, (some .boolean), 9, 1),
  (⟨RX9, "isTaken", "(I)Z"⟩, prog_11_method_9_code, 2, (some .boolean), 9, 1),
  (⟨RX9, "seatGuest", "(II)V"⟩, prog_11_method_10_code, 3, none, 9, 2),
  (⟨RX9, "putGuest", "(III)V"⟩, prog_11_method_11_code, 4, none, 9, 3),
  (⟨RX9, "liftGuest", "(I)V"⟩, prog_11_method_12_code, 2, none, 9, 1),
  (⟨RX9, "swapWithNext", "(I)V"⟩, prog_11_method_13_code, 4, none, 9, 1),
  (⟨RX9, "peaceNow", "()I"⟩, prog_11_method_14_code, 3, (some .int), 9, 0),
  (⟨RX9, "peaceBehind", "(I)I"⟩, prog_11_method_15_code, 4, (some .int), 9, 1),
  (⟨RX9, "isTrio", "(I)Z"⟩, prog_11_method_16_code, 3, (some .boolean), 9, 1),
  (⟨RX9, "trioCount", "()I"⟩, prog_11_method_17_code, 3, (some .int), 9, 0),
  (⟨RX9, "firstTrio", "()I"⟩, prog_11_method_18_code, 2, (some .int), 9, 0),
  (⟨RX9, "firstFree", "()I"⟩, prog_11_method_19_code, 2, (some .int), 9, 0),
  (⟨RX9, "seatedGuests", "()I"⟩, prog_11_method_20_code, 3, (some .int), 9, 0),
  (⟨RX9, "takenChairs", "()I"⟩, prog_11_method_21_code, 3, (some .int), 9, 0),
  (⟨RX9, "allManners", "()I"⟩, prog_11_method_22_code, 3, (some .int), 9, 0),
  (⟨RX9, "writeTo", "(LChairPast$Line;)V"⟩, prog_11_method_23_code, 3, none, 9, 1),
  (⟨RX9, "readFrom", "(LChairPast$Line;)V"⟩, prog_11_method_24_code, 3, none, 9, 1),
  (⟨RX10, "<init>", "()V"⟩, prog_12_method_1_code, 1, none, 10, 0),
  (⟨RX10, "number", "()I"⟩, prog_12_method_2_code, 1, (some .int), 10, 0),
  (⟨RX10, "bearingOn", "(LChairPast$Chair;I)I"⟩, prog_12_method_3_code, 3, (some .int), 10, 2),
  (⟨RX10, "wear", "(LChairPast$Chair;)V"⟩, prog_12_method_4_code, 2, none, 10, 1),
  (⟨RX10, "sizeOf", "(LChairPast$Chair;LChairPast$Line;)I"⟩, prog_12_method_5_code, 3, (some .int), 10, 2),
  (⟨RX10, "markOf", "(LChairPast$Chair;LChairPast$Line;)I"⟩, prog_12_method_6_code, 4, (some .int), 10, 2),
  (⟨RX11, "<init>", "()V"⟩, prog_1_method_1_code, 4, none, 11, 0),
  (⟨RX11, "row", "(III)I"⟩, prog_1_method_2_code, 5, (some .int), 11, 3),
  (⟨RX11, "set", "(III)I"⟩, prog_1_method_3_code, 4, (some .int), 11, 3),
  (⟨RX11, "copy", "(IIIII)I"⟩, prog_1_method_4_code, 6, (some .int), 11, 5),
  (⟨RX11, "drop", "(I)I"⟩, prog_1_method_5_code, 3, (some .int), 11, 1),
  (⟨RX11, "feed", "(I)I"⟩, prog_1_method_6_code, 2, (some .int), 11, 1),
  (⟨RX11, "room", "()I"⟩, prog_1_method_7_code, 1, (some .int), 11, 0),
  (⟨RX11, "fault", "()I"⟩, prog_1_method_8_code, 1, (some .int), 11, 0),
  (⟨RX11, "sit", "(II)I"⟩, prog_1_method_9_code, 3, (some .int), 11, 2),
  (⟨RX11, "rise", "(I)I"⟩, prog_1_method_10_code, 3, (some .int), 11, 1),
  (⟨RX11, "recane", "(I)I"⟩, prog_1_method_11_code, 3, (some .int), 11, 1)]

def mTl2 : List jM := [
  (⟨RX11, "move", "(I)I"⟩, prog_1_method_12_code, 2, (some .int), 11, 1),
  (⟨RX11, "undo", "()I"⟩, prog_1_method_13_code, 1, (some .int), 11, 0),
  (⟨RX11, "chair", "(II)I"⟩, prog_1_method_14_code, 4, (some .int), 11, 2),
  (⟨RX11, "guest", "(II)I"⟩, prog_1_method_15_code, 3, (some .int), 11, 2),
  (⟨RX11, "peace", "()I"⟩, prog_1_method_16_code, 1, (some .int), 11, 0),
  (⟨RX11, "would", "(III)I"⟩, prog_1_method_17_code, 4, (some .int), 11, 3),
  (⟨RX11, "seating", "(I)I"⟩, prog_1_method_18_code, 2, (some .int), 11, 1),
  (⟨RX11, "warm", "(IIII)I"⟩, prog_1_method_19_code, 6, (some .int), 11, 4),
  (⟨RX11, "pure", "(II)I"⟩, prog_1_method_20_code, 3, (some .int), 11, 2),
  (⟨RX11, "between", "(IIII)I"⟩, prog_1_method_21_code, 5, (some .int), 11, 4),
  (⟨RX11, "trios", "(I)I"⟩, prog_1_method_22_code, 2, (some .int), 11, 1),
  (⟨RX11, "owns", "(III)I"⟩, prog_1_method_23_code, 5, (some .int), 11, 3),
  (⟨RX11, "fits", "(IIII)I"⟩, prog_1_method_24_code, 6, (some .int), 11, 4),
  (⟨RX11, "caned", "(III)I"⟩, prog_1_method_25_code, 4, (some .int), 11, 3),
  (⟨RX11, "drawn", "(III)I"⟩, prog_1_method_26_code, 4, (some .int), 11, 3),
  (⟨RX11, "image", "(I)I"⟩, prog_1_method_27_code, 2, (some .int), 11, 1),
  (⟨RX11, "restore", "(I)I"⟩, prog_1_method_28_code, 2, (some .int), 11, 1),
  (⟨RX11, "kind", "(I)I"⟩, prog_1_method_29_code, 2, (some .int), 11, 1),
  (⟨RX11, "as", "(II)I"⟩, prog_1_method_30_code, 3, (some .int), 11, 2),
  (⟨RX11, "ask", "(II)I"⟩, prog_1_method_31_code, 4, (some .int), 11, 2),
  (⟨RX11, "trace", "(I)I"⟩, prog_1_method_32_code, 2, (some .int), 11, 1),
  (⟨RX11, "count", "(I)I"⟩, prog_1_method_33_code, 2, (some .int), 11, 1),
  (⟨RX11, "status", "()I"⟩, prog_1_method_34_code, 1, (some .int), 11, 0),
  (⟨RX11, "within", "(III)Z"⟩, prog_1_method_35_code, 3, (some .boolean), 11, 3),
  (⟨RX11, "isRow", "(I)Z"⟩, prog_1_method_36_code, 1, (some .boolean), 11, 1),
  (⟨RX11, "isMissing", "(I)Z"⟩, prog_1_method_37_code, 2, (some .boolean), 11, 1),
  (⟨RX11, "rowsThere", "()I"⟩, prog_1_method_38_code, 3, (some .int), 11, 0),
  (⟨RX11, "narrowed", "(II)I"⟩, prog_1_method_39_code, 2, (some .int), 11, 2),
  (⟨RX11, "findingOf", "(III)I"⟩, prog_1_method_40_code, 4, (some .int), 11, 3),
  (⟨RX11, "found", "(I)I"⟩, prog_1_method_41_code, 2, (some .int), 11, 1),
  (⟨RX11, "sound", "(I)I"⟩, prog_1_method_42_code, 2, (some .int), 11, 1),
  (⟨RX11, "keepAct", "()V"⟩, prog_1_method_43_code, 1, none, 11, 0),
  (⟨RX11, "forgetActs", "()V"⟩, prog_1_method_44_code, 1, none, 11, 0),
  (⟨RX11, "isOf", "(LChairPast$Kind;I)Z"⟩, prog_1_method_45_code, 2, (some .boolean), 11, 2),
  (⟨RX12, "<init>", "()V"⟩, prog_14_method_1_code, 2, none, 12, 0),
  (⟨RX12, "in", "(III)Z"⟩, prog_14_method_3_code, 3, (some .boolean), 12, 3),
  (⟨RX12, "has", "(II)Z"⟩, prog_14_method_4_code, 2, (some .boolean), 12, 2),
  (⟨RX12, "found", "(I)I"⟩, prog_14_method_5_code, 2, (some .int), 12, 1),
  (⟨RX12, "well", "(I)I"⟩, prog_14_method_6_code, 2, (some .int), 12, 1),
  (⟨RX12, "copies", "([II[II)V"⟩, prog_14_method_7_code, 5, none, 12, 4),
  (⟨RX12, "isRow", "(I)Z"⟩, prog_14_method_8_code, 1, (some .boolean), 12, 1),
  (⟨RX12, "isMissing", "(I)Z"⟩, prog_14_method_9_code, 2, (some .boolean), 12, 1),
  (⟨RX12, "cut", "(II)I"⟩, prog_14_method_10_code, 2, (some .int), 12, 2),
  (⟨RX12, "row", "(III)I"⟩, prog_14_method_11_code, 5, (some .int), 12, 3),
  (⟨RX12, "set", "(III)I"⟩, prog_14_method_12_code, 4, (some .int), 12, 3),
  (⟨RX12, "isPart", "(III)Z"⟩, prog_14_method_13_code, 4, (some .boolean), 12, 3),
  (⟨RX12, "copy", "(IIIII)I"⟩, prog_14_method_14_code, 7, (some .int), 12, 5),
  (⟨RX12, "drop", "(I)I"⟩, prog_14_method_15_code, 2, (some .int), 12, 1),
  (⟨RX12, "feed", "(I)I"⟩, prog_14_method_16_code, 2, (some .int), 12, 1),
  (⟨RX12, "byteAt", "(I)I"⟩, prog_14_method_17_code, 2, (some .int), 12, 1),
  (⟨RX12, "advances", "()V"⟩, prog_14_method_18_code, 2, none, 12, 0),
  (⟨RX12, "isWell", "()Z"⟩, prog_14_method_19_code, 1, (some .boolean), 12, 0),
  (⟨RX12, "takes", "(ZI)I"⟩, prog_14_method_20_code, 4, (some .int), 12, 2),
  (⟨RX12, "figure", "(II)I"⟩, prog_14_method_21_code, 3, (some .int), 12, 2),
  (⟨RX12, "kindOf", "(I)I"⟩, prog_14_method_22_code, 1, (some .int), 12, 1),
  (⟨RX12, "follows", "(II)I"⟩, prog_14_method_23_code, 3, (some .int), 12, 2),
  (⟨RX12, "readsChair", "()V"⟩, prog_14_method_24_code, 6, none, 12, 0),
  (⟨RX12, "readsGuest", "()V"⟩, prog_14_method_25_code, 4, none, 12, 0),
  (⟨RX12, "must", "(Z)V"⟩, prog_14_method_26_code, 2, none, 12, 1),
  (⟨RX12, "room", "()I"⟩, prog_14_method_27_code, 2, (some .int), 12, 0)]

def mTl3 : List jM := [
  (⟨RX12, "fault", "()I"⟩, prog_14_method_28_code, 1, (some .int), 12, 0),
  (⟨RX12, "isRoom", "()Z"⟩, prog_14_method_29_code, 1, (some .boolean), 12, 0),
  (⟨RX12, "isChair", "(I)Z"⟩, prog_14_method_30_code, 2, (some .boolean), 12, 1),
  (⟨RX12, "isGuest", "(I)Z"⟩, prog_14_method_31_code, 2, (some .boolean), 12, 1),
  (⟨RX12, "mixed", "(III)I"⟩, prog_14_method_32_code, 3, (some .int), 12, 3),
  (⟨RX12, "bearing", "([III)I"⟩, prog_14_method_33_code, 5, (some .int), 12, 3),
  (⟨RX12, "sits", "([III)I"⟩, prog_14_method_34_code, 6, (some .int), 12, 3),
  (⟨RX12, "sitter", "([II)I"⟩, prog_14_method_35_code, 3, (some .int), 12, 2),
  (⟨RX12, "puts", "([III)V"⟩, prog_14_method_36_code, 3, none, 12, 3),
  (⟨RX12, "peaceOf", "([I)I"⟩, prog_14_method_37_code, 6, (some .int), 12, 1),
  (⟨RX12, "isTrio", "([II)Z"⟩, prog_14_method_38_code, 3, (some .boolean), 12, 2),
  (⟨RX12, "notes", "()V"⟩, prog_14_method_39_code, 2, none, 12, 0),
  (⟨RX12, "sit", "(II)I"⟩, prog_14_method_40_code, 3, (some .int), 12, 2),
  (⟨RX12, "rise", "(I)I"⟩, prog_14_method_41_code, 4, (some .int), 12, 1),
  (⟨RX12, "recane", "(I)I"⟩, prog_14_method_42_code, 3, (some .int), 12, 1),
  (⟨RX12, "move", "(I)I"⟩, prog_14_method_43_code, 4, (some .int), 12, 1),
  (⟨RX12, "undo", "()I"⟩, prog_14_method_44_code, 1, (some .int), 12, 0),
  (⟨RX12, "chair", "(II)I"⟩, prog_14_method_45_code, 3, (some .int), 12, 2),
  (⟨RX12, "guest", "(II)I"⟩, prog_14_method_46_code, 4, (some .int), 12, 2),
  (⟨RX12, "peace", "()I"⟩, prog_14_method_47_code, 1, (some .int), 12, 0),
  (⟨RX12, "would", "(III)I"⟩, prog_14_method_48_code, 5, (some .int), 12, 3),
  (⟨RX12, "counts", "(II)Z"⟩, prog_14_method_49_code, 4, (some .boolean), 12, 2),
  (⟨RX12, "seats", "()Z"⟩, prog_14_method_50_code, 4, (some .boolean), 12, 0),
  (⟨RX12, "seating", "(I)I"⟩, prog_14_method_51_code, 5, (some .int), 12, 1),
  (⟨RX12, "warm", "(IIII)I"⟩, prog_14_method_52_code, 8, (some .int), 12, 4),
  (⟨RX12, "pure", "(II)I"⟩, prog_14_method_53_code, 5, (some .int), 12, 2),
  (⟨RX12, "isLeft", "(III)Z"⟩, prog_14_method_54_code, 4, (some .boolean), 12, 3),
  (⟨RX12, "between", "(IIII)I"⟩, prog_14_method_55_code, 9, (some .int), 12, 4),
  (⟨RX12, "trios", "(I)I"⟩, prog_14_method_56_code, 5, (some .int), 12, 1),
  (⟨RX12, "owns", "(III)I"⟩, prog_14_method_57_code, 8, (some .int), 12, 3),
  (⟨RX12, "fits", "(IIII)I"⟩, prog_14_method_58_code, 11, (some .int), 12, 4),
  (⟨RX12, "sitDown", "()V"⟩, prog_14_method_59_code, 3, none, 12, 0),
  (⟨RX12, "caned", "(III)I"⟩, prog_14_method_60_code, 9, (some .int), 12, 3),
  (⟨RX12, "drawn", "(III)I"⟩, prog_14_method_61_code, 9, (some .int), 12, 3),
  (⟨RX12, "image", "(I)I"⟩, prog_14_method_62_code, 2, (some .int), 12, 1),
  (⟨RX12, "restore", "(I)I"⟩, prog_14_method_63_code, 2, (some .int), 12, 1),
  (⟨RX12, "kindIn", "(I)I"⟩, prog_14_method_64_code, 2, (some .int), 12, 1),
  (⟨RX12, "kind", "(I)I"⟩, prog_14_method_65_code, 2, (some .int), 12, 1),
  (⟨RX12, "as", "(II)I"⟩, prog_14_method_66_code, 5, (some .int), 12, 2),
  (⟨RX12, "begins", "(I)V"⟩, prog_14_method_67_code, 2, none, 12, 1),
  (⟨RX12, "plainMark", "(I)I"⟩, prog_14_method_68_code, 4, (some .int), 12, 1),
  (⟨RX12, "throneSize", "(I)I"⟩, prog_14_method_69_code, 4, (some .int), 12, 1),
  (⟨RX12, "plainSize", "(I)I"⟩, prog_14_method_70_code, 4, (some .int), 12, 1),
  (⟨RX12, "throneMark", "(I)I"⟩, prog_14_method_71_code, 2, (some .int), 12, 1),
  (⟨RX12, "ask", "(II)I"⟩, prog_14_method_72_code, 4, (some .int), 12, 2),
  (⟨RX12, "trace", "(I)I"⟩, prog_14_method_73_code, 2, (some .int), 12, 1),
  (⟨RX12, "sitting", "()I"⟩, prog_14_method_74_code, 3, (some .int), 12, 0),
  (⟨RX12, "takenChairs", "()I"⟩, prog_14_method_75_code, 3, (some .int), 12, 0),
  (⟨RX12, "count", "(I)I"⟩, prog_14_method_76_code, 4, (some .int), 12, 1),
  (⟨RX12, "status", "()I"⟩, prog_14_method_77_code, 1, (some .int), 12, 0)]

def mTl : List jM := mTl0 ++ (mTl1 ++ (mTl2 ++ (mTl3)))

def mT (m : Nat) : jM := mTl.getD m (⟨"", "", ""⟩, prog_2_method_1_code, 0, none, 0, 0)

def mY (m : Nat) : MethodName := (mT m).1
def mB (m : Nat) : ByteArray := (mT m).2.1
def mL (m : Nat) : Nat := (mT m).2.2.1
def mR (m : Nat) : Option FieldType := (mT m).2.2.2.1
def mO (m : Nat) : Nat := (mT m).2.2.2.2.1
def mP (m : Nat) : Nat := (mT m).2.2.2.2.2

def cQ (c : Nat) : vw_C := jcl.getD c ("", TX0, 0)
def cT (c : Nat) : u_T := (cQ c).2.1
def cN (c : Nat) : String := (cQ c).1
def cF (c : Nat) : Nat := (cQ c).2.2
/-- a field that holds a reference -/
def fR (c k : Nat) : Bool := !((cT c k).2.2.1 == "I")

def tFl : List (Nat × Nat × Nat × Nat × Nat × Nat × Nat) := [(5, 15, 95, 4, 0, 1, 1), (11, 103, 96, 4, 0, 1, 1), (5, 21, 97, 4, 1, 0, 0), (7, 51, 98, 4, 1, 0, 0), (11, 99, 99, 4, 1, 0, 0), (5, 25, 100, 4, 2, 0, 0),
  (1, 16, 163, 1, 0, 1, 0), (9, 47, 164, 1, 0, 1, 0), (3, 170, 165, 1, 0, 1, 0), (11, 277, 166, 1, 0, 1, 0), (0, 9, 167, 1, 1, 0, 0), (6, 9, 168, 1, 1, 0, 0),
  (8, 13, 169, 1, 1, 0, 0), (10, 13, 170, 1, 1, 0, 0), (1, 42, 171, 1, 1, 0, 0), (9, 51, 172, 1, 1, 0, 0), (3, 81, 173, 1, 1, 0, 0), (4, 19, 174, 1, 1, 0, 0),
  (11, 203, 175, 1, 1, 0, 0), (10, 7, 176, 1, 2, 0, 0), (6, 15, 177, 1, 2, 0, 0), (0, 21, 178, 1, 2, 0, 0), (8, 16, 179, 1, 2, 0, 0), (1, 39, 180, 1, 2, 0, 0),
  (9, 54, 181, 1, 2, 0, 0), (3, 85, 182, 1, 2, 0, 0), (11, 185, 183, 1, 2, 0, 0), (9, 57, 184, 1, 3, 0, 0), (4, 13, 185, 1, 3, 0, 0), (1, 45, 186, 1, 3, 0, 0),
  (11, 206, 187, 1, 3, 0, 0), (8, 7, 188, 1, 4, 0, 0), (1, 26, 189, 1, 4, 0, 0), (9, 60, 190, 1, 4, 0, 0), (11, 209, 191, 1, 4, 0, 0), (1, 10, 192, 1, 5, 0, 0),
  (9, 64, 193, 1, 5, 0, 0), (11, 212, 194, 1, 5, 0, 0), (9, 30, 208, 8, 0, 1, 1), (9, 11, 209, 8, 1, 1, 1), (3, 69, 210, 8, 1, 1, 1), (11, 181, 211, 8, 1, 1, 1),
  (9, 17, 212, 8, 2, 1, 1), (3, 59, 213, 8, 2, 1, 1), (11, 215, 214, 8, 2, 1, 1), (9, 21, 215, 8, 3, 1, 1), (3, 62, 216, 8, 3, 1, 1), (11, 218, 217, 8, 3, 1, 1),
  (9, 24, 218, 8, 4, 1, 1), (3, 139, 219, 8, 4, 1, 1), (11, 175, 220, 8, 4, 1, 1), (9, 27, 221, 8, 5, 1, 1), (11, 172, 222, 8, 5, 1, 1), (9, 37, 223, 8, 6, 0, 0),
  (3, 100, 224, 8, 6, 0, 0), (7, 85, 225, 8, 6, 0, 0), (11, 149, 226, 8, 6, 0, 0), (9, 41, 227, 8, 7, 0, 0), (3, 88, 228, 8, 7, 0, 0), (7, 95, 229, 8, 7, 0, 0),
  (11, 260, 230, 8, 7, 0, 0), (9, 44, 231, 8, 8, 0, 0), (7, 71, 232, 8, 8, 0, 0), (11, 307, 233, 8, 8, 0, 0), (7, 14, 263, 6, 0, 1, 1), (11, 120, 264, 6, 0, 1, 1),
  (7, 20, 265, 6, 1, 1, 1), (7, 28, 266, 6, 2, 1, 1), (7, 32, 267, 6, 3, 0, 0), (11, 135, 268, 6, 3, 0, 0), (7, 36, 269, 6, 4, 0, 0), (11, 128, 270, 6, 4, 0, 0),
  (3, 27, 294, 3, 0, 1, 1), (3, 40, 295, 3, 1, 1, 1), (3, 31, 296, 3, 2, 1, 1), (3, 48, 297, 3, 3, 1, 1), (3, 14, 298, 3, 4, 1, 1), (3, 20, 299, 3, 5, 1, 1),
  (3, 24, 300, 3, 6, 1, 1), (3, 110, 301, 3, 7, 0, 0), (11, 11, 319, 10, 0, 1, 1), (11, 15, 320, 10, 1, 1, 1), (11, 22, 321, 10, 2, 1, 1), (11, 26, 322, 10, 3, 1, 1),
  (11, 29, 323, 10, 4, 1, 1), (11, 54, 324, 10, 5, 1, 1), (11, 61, 325, 10, 6, 1, 1), (11, 70, 326, 10, 7, 1, 1), (11, 200, 327, 10, 8, 0, 0), (11, 197, 328, 10, 9, 0, 0),
  (11, 131, 329, 10, 10, 0, 0), (11, 310, 330, 10, 11, 0, 0), (12, 7, 986, 11, 0, 1, 1), (12, 13, 987, 11, 1, 1, 1), (12, 16, 988, 11, 2, 1, 1), (12, 19, 989, 11, 3, 1, 1),
  (12, 54, 990, 11, 4, 0, 0), (12, 22, 991, 11, 5, 1, 1), (12, 85, 992, 11, 6, 0, 0), (12, 111, 993, 11, 7, 0, 0), (12, 104, 994, 11, 8, 0, 0), (12, 89, 995, 11, 9, 0, 0),
  (12, 92, 996, 11, 10, 0, 0), (12, 101, 997, 11, 11, 0, 0), (12, 98, 998, 11, 12, 0, 0), (12, 25, 999, 11, 13, 1, 1), (12, 28, 1000, 11, 14, 1, 1), (12, 31, 1001, 11, 15, 1, 1),
  (12, 34, 1002, 11, 16, 1, 1), (12, 145, 1003, 11, 17, 0, 0), (12, 37, 1004, 11, 18, 1, 1), (12, 40, 1005, 11, 19, 1, 1), (12, 44, 1006, 11, 20, 1, 1), (12, 47, 1007, 11, 21, 1, 1),
  (12, 50, 1008, 11, 22, 1, 1), (12, 212, 1009, 11, 23, 0, 0)]

def tKl : List (Nat × Nat × Nat × Int) := [(1, 9, 162, (-1000000)), (11, 82, 366, (-1000001)), (11, 313, 371, (-1000010)), (11, 123, 414, (-1000003)), (5, 28, 447, (-1000000)), (9, 63, 474, (-1000000)),
  (11, 134, 488, (-1000100)), (11, 164, 567, (-1000002)), (13, 265, 724, 1431655765), (13, 266, 725, 858993459), (13, 267, 726, 252645135), (3, 106, 731, (-1000000)),
  (11, 234, 772, (-1000000)), (11, 270, 873, 999999), (12, 53, 985, (-1000000)), (12, 67, 1070, (-1000001)), (12, 58, 1075, (-1000010)), (12, 88, 1107, (-1000003)),
  (12, 140, 1151, (-1000100)), (12, 173, 1174, (-1000002)), (12, 204, 1288, 999999)]

def tKKl : List (Nat × Nat × Nat × Int) := [(3, 189, 878, 16807), (3, 191, 879, 2147483647), (12, 205, 1289, 16807), (12, 207, 1290, 2147483647)]

def tNl : List (Nat × Nat × Nat × Nat × Nat × Nat) := [(3, 9, 288, 4, 87, 62), (3, 35, 290, 8, 150, 70), (3, 43, 292, 1, 157, 71), (7, 9, 259, 4, 87, 62), (7, 23, 261, 8, 150, 70), (9, 9, 155, 1, 157, 71),
  (11, 9, 85, 4, 87, 62), (11, 34, 111, 5, 112, 65), (11, 37, 121, 7, 122, 66), (11, 40, 128, 0, 129, 67), (11, 43, 135, 9, 136, 68), (11, 46, 142, 2, 143, 69),
  (11, 49, 149, 8, 150, 70), (11, 58, 253, 6, 254, 72), (11, 65, 282, 3, 283, 73)]

def tAl : List (Nat × Nat × Nat × Nat × Nat) := [(9, 9, 155, 54, 156), (11, 9, 85, 52, 86), (11, 32, 109, 53, 110)]

def tOl : List (Nat × Nat × Nat × Nat) := [(11, 34, 111, 6), (11, 37, 121, 8), (11, 40, 128, 0), (11, 43, 135, 10), (11, 46, 142, 2)]

def tSl : List (Nat × Nat × Nat × Nat × Nat × Nat × Nat) := [(0, 15, 5, 587, 588, 67, 0), (0, 24, 58, 590, 592, 65, 591), (3, 180, 39, 866, 867, 73, 0), (6, 18, 58, 604, 592, 65, 0), (7, 78, 72, 463, 464, 72, 0), (7, 105, 71, 456, 457, 72, 0),
  (8, 19, 58, 608, 592, 65, 609), (11, 74, 144, 360, 361, 61, 0), (11, 78, 143, 363, 364, 61, 0), (11, 106, 147, 392, 393, 61, 0), (11, 284, 153, 905, 906, 61, 0), (12, 59, 155, 1067, 1068, 74, 0),
  (12, 63, 160, 1064, 1065, 74, 0), (12, 78, 162, 1088, 1089, 74, 0), (12, 124, 174, 1132, 1133, 74, 0), (12, 141, 159, 1152, 1153, 74, 0), (12, 148, 184, 1188, 1189, 74, 0), (12, 152, 185, 1185, 1186, 74, 0),
  (12, 156, 186, 1182, 1183, 74, 0), (12, 159, 187, 1171, 1172, 74, 0), (12, 163, 190, 1206, 1207, 74, 0), (12, 177, 188, 1179, 1180, 74, 0), (12, 181, 189, 1203, 1204, 74, 0), (12, 198, 156, 1277, 1278, 74, 0)]

def tMl : List (Nat × Nat × Nat × Nat) := [(1, 29, 4, 611), (2, 13, 3, 600), (3, 95, 1, 721), (3, 150, 3, 767), (5, 9, 3, 92), (9, 92, 2, 663),
  (11, 114, 0, 403)]

def tIl : List (Nat × Nat × Nat × Nat × Nat × Nat) := [(3, 11, 45, 289, 89, 62), (3, 37, 79, 291, 152, 70), (3, 45, 6, 293, 159, 71), (7, 11, 45, 260, 89, 62), (7, 25, 79, 262, 152, 70), (9, 34, 6, 158, 159, 71),
  (11, 19, 45, 88, 89, 62), (11, 51, 79, 151, 152, 70), (11, 60, 59, 255, 256, 72), (11, 67, 17, 284, 285, 73)]

def tJl : List (Nat × Nat × Nat × Nat × Nat × Nat) := [(0, 3, 52, 133, 114, 65), (2, 1, 103, 147, 138, 68), (6, 3, 42, 116, 117, 64), (8, 1, 52, 126, 114, 65), (10, 1, 42, 140, 117, 64), (11, 36, 52, 113, 114, 65),
  (11, 39, 74, 123, 124, 66), (11, 42, 0, 130, 131, 67), (11, 45, 103, 137, 138, 68), (11, 48, 13, 144, 145, 69)]

def tBl : List (Nat × Nat × Nat) := [(1, 3, 161), (3, 3, 287), (4, 1, 119), (5, 3, 91), (7, 3, 258), (9, 3, 154),
  (11, 3, 82), (12, 1, 984)]

def tPl : List (Nat × Nat × Nat × Nat × Nat × Nat × Nat × Nat) := [(0, 28, 55, 620, 621, 65, 1356, 134), (0, 38, 57, 928, 921, 65, 923, 134), (2, 7, 105, 597, 598, 68, 1355, 148), (2, 25, 107, 943, 944, 68, 1358, 148), (6, 30, 43, 919, 913, 64, 914, 120), (6, 37, 44, 935, 936, 64, 1357, 120),
  (8, 31, 56, 952, 916, 65, 1359, 127), (8, 35, 57, 933, 921, 65, 923, 127), (10, 22, 43, 947, 913, 64, 914, 141), (10, 26, 44, 958, 936, 64, 1357, 141)]

def tVl : List (Nat × Nat × Nat × Nat × Nat × Nat × Nat × Nat × Nat × Nat × Nat × Nat) := [(0, 32, 1, 4, 47, 927, 378, 377, 62, 0, 0, 0), (1, 20, 2, 5, 54, 581, 601, 602, 65, 1, 583, 582), (1, 20, 2, 7, 76, 581, 605, 606, 66, 1, 583, 582), (1, 20, 2, 0, 2, 581, 584, 585, 67, 1, 583, 582), (1, 20, 2, 9, 105, 581, 610, 598, 68, 1, 583, 582), (1, 20, 2, 2, 15, 581, 594, 595, 69, 1, 583, 582),
  (1, 35, 1, 5, 55, 614, 626, 621, 65, 1, 616, 615), (1, 35, 1, 7, 55, 614, 627, 621, 65, 1, 616, 615), (1, 35, 1, 0, 3, 614, 617, 618, 67, 1, 616, 615), (1, 35, 1, 9, 106, 614, 628, 624, 68, 1, 616, 615), (1, 35, 1, 2, 106, 614, 623, 624, 68, 1, 616, 615), (1, 48, 0, 5, 53, 503, 512, 513, 65, 1, 505, 504),
  (1, 48, 0, 7, 75, 503, 515, 516, 66, 1, 505, 504), (1, 48, 0, 0, 1, 503, 506, 507, 67, 1, 505, 504), (1, 48, 0, 9, 104, 503, 518, 519, 68, 1, 505, 504), (1, 48, 0, 2, 14, 503, 509, 510, 69, 1, 505, 504), (1, 52, 1, 4, 47, 521, 378, 377, 62, 0, 0, 0), (1, 58, 0, 4, 51, 538, 532, 531, 62, 0, 0, 0),
  (2, 19, 1, 4, 47, 942, 378, 377, 62, 0, 0, 0), (3, 52, 1, 8, 101, 736, 495, 494, 70, 0, 0, 0), (3, 56, 1, 8, 102, 737, 524, 523, 70, 0, 0, 0), (3, 65, 2, 1, 8, 707, 579, 578, 71, 0, 0, 0), (3, 73, 1, 1, 10, 699, 701, 700, 71, 0, 0, 0), (3, 77, 1, 3, 19, 703, 17, 705, 73, 0, 0, 0),
  (3, 91, 0, 8, 98, 716, 718, 717, 70, 0, 0, 0), (3, 103, 0, 8, 99, 727, 729, 728, 70, 0, 0, 0), (3, 107, 0, 3, 18, 732, 18, 734, 73, 0, 0, 0), (3, 113, 1, 3, 22, 738, 19, 740, 73, 0, 0, 0), (3, 116, 0, 3, 23, 742, 20, 744, 73, 0, 0, 0), (3, 119, 1, 8, 86, 747, 561, 560, 70, 0, 0, 0),
  (3, 123, 1, 8, 87, 748, 565, 564, 70, 0, 0, 0), (3, 126, 1, 1, 7, 749, 751, 750, 71, 0, 0, 0), (3, 129, 3, 8, 89, 753, 631, 630, 70, 0, 0, 0), (3, 133, 1, 8, 90, 754, 639, 638, 70, 0, 0, 0), (3, 136, 0, 8, 92, 746, 657, 656, 70, 0, 0, 0), (3, 142, 2, 3, 26, 763, 21, 765, 73, 0, 0, 0),
  (3, 146, 3, 3, 27, 768, 22, 770, 73, 0, 0, 0), (3, 155, 2, 1, 9, 793, 795, 794, 71, 0, 0, 0), (3, 159, 3, 3, 32, 825, 24, 827, 73, 0, 0, 0), (3, 163, 2, 3, 34, 837, 25, 839, 73, 0, 0, 0), (3, 166, 2, 3, 35, 841, 26, 843, 73, 0, 0, 0), (3, 174, 1, 3, 37, 853, 27, 855, 73, 0, 0, 0),
  (3, 177, 2, 3, 38, 862, 28, 864, 73, 0, 0, 0), (3, 183, 0, 8, 97, 857, 859, 858, 70, 0, 0, 0), (3, 186, 2, 8, 88, 861, 575, 574, 70, 0, 0, 0), (3, 193, 1, 3, 41, 880, 29, 882, 73, 0, 0, 0), (3, 197, 0, 8, 100, 884, 886, 885, 70, 0, 0, 0), (4, 7, 1, 4, 47, 938, 378, 377, 62, 0, 0, 0),
  (6, 24, 1, 4, 47, 918, 378, 377, 62, 0, 0, 0), (6, 34, 2, 5, 57, 920, 922, 921, 65, 0, 0, 0), (6, 34, 2, 7, 78, 920, 929, 930, 66, 2, 923, 921), (6, 34, 2, 0, 4, 920, 924, 925, 67, 2, 923, 921), (7, 39, 0, 8, 80, 423, 425, 424, 70, 0, 0, 0), (7, 42, 0, 6, 62, 427, 3, 429, 72, 0, 0, 0),
  (7, 45, 0, 6, 63, 459, 9, 461, 72, 0, 0, 0), (7, 48, 0, 6, 65, 475, 11, 477, 72, 0, 0, 0), (7, 54, 1, 6, 73, 448, 7, 450, 72, 0, 0, 0), (7, 57, 0, 4, 46, 487, 374, 373, 62, 0, 0, 0), (7, 60, 1, 8, 101, 493, 495, 494, 70, 0, 0, 0), (7, 64, 1, 6, 67, 431, 4, 433, 72, 0, 0, 0),
  (7, 67, 2, 6, 68, 452, 8, 454, 72, 0, 0, 0), (7, 74, 0, 6, 69, 435, 5, 437, 72, 0, 0, 0), (7, 82, 0, 6, 64, 466, 10, 468, 72, 0, 0, 0), (7, 88, 4, 8, 81, 470, 472, 471, 70, 0, 0, 0), (7, 92, 0, 6, 66, 479, 12, 481, 72, 0, 0, 0), (7, 98, 2, 8, 82, 483, 485, 484, 70, 0, 0, 0),
  (7, 102, 1, 6, 70, 439, 6, 441, 72, 0, 0, 0), (7, 109, 1, 4, 48, 443, 445, 444, 62, 0, 0, 0), (8, 25, 1, 4, 47, 932, 378, 377, 62, 0, 0, 0), (9, 67, 2, 1, 8, 577, 579, 578, 71, 0, 0, 0), (9, 71, 3, 8, 89, 629, 631, 630, 70, 0, 0, 0), (9, 75, 1, 8, 84, 641, 557, 556, 70, 0, 0, 0),
  (9, 79, 1, 8, 85, 654, 553, 552, 70, 0, 0, 0), (9, 82, 1, 8, 93, 659, 15, 661, 70, 0, 0, 0), (9, 86, 1, 8, 94, 666, 16, 668, 70, 0, 0, 0), (9, 89, 1, 8, 87, 670, 565, 564, 70, 0, 0, 0), (9, 97, 1, 8, 86, 720, 561, 560, 70, 0, 0, 0), (9, 100, 0, 4, 46, 497, 374, 373, 62, 0, 0, 0),
  (9, 105, 1, 4, 47, 498, 378, 377, 62, 0, 0, 0), (9, 108, 1, 1, 11, 499, 501, 500, 71, 0, 0, 0), (9, 112, 0, 4, 50, 526, 528, 527, 62, 0, 0, 0), (9, 115, 0, 4, 51, 530, 532, 531, 62, 0, 0, 0), (9, 119, 2, 1, 12, 534, 536, 535, 71, 0, 0, 0), (10, 16, 1, 4, 47, 946, 378, 377, 62, 0, 0, 0),
  (10, 29, 2, 9, 107, 959, 1363, 944, 68, 0, 0, 0), (10, 29, 2, 2, 16, 959, 1362, 940, 69, 2, 1358, 944), (11, 83, 1, 10, 149, 367, 0, 369, 61, 0, 0, 0), (11, 87, 0, 4, 46, 372, 374, 373, 62, 0, 0, 0), (11, 90, 1, 4, 47, 376, 378, 377, 62, 0, 0, 0), (11, 93, 1, 10, 150, 380, 1, 382, 61, 0, 0, 0),
  (11, 96, 1, 10, 145, 388, 2, 390, 61, 0, 0, 0), (11, 110, 2, 4, 49, 399, 401, 400, 62, 0, 0, 0), (11, 124, 0, 6, 60, 419, 421, 420, 72, 0, 0, 0), (11, 138, 0, 6, 61, 489, 491, 490, 72, 0, 0, 0), (11, 142, 1, 8, 102, 522, 524, 523, 70, 0, 0, 0), (11, 146, 0, 10, 152, 539, 13, 541, 61, 0, 0, 0),
  (11, 152, 1, 8, 85, 551, 553, 552, 70, 0, 0, 0), (11, 155, 1, 8, 84, 555, 557, 556, 70, 0, 0, 0), (11, 158, 1, 8, 86, 559, 561, 560, 70, 0, 0, 0), (11, 161, 1, 8, 87, 563, 565, 564, 70, 0, 0, 0), (11, 165, 0, 10, 151, 568, 14, 570, 61, 0, 0, 0), (11, 168, 2, 8, 88, 573, 575, 574, 70, 0, 0, 0),
  (11, 178, 1, 8, 90, 637, 639, 638, 70, 0, 0, 0), (11, 190, 1, 8, 91, 650, 652, 651, 70, 0, 0, 0), (11, 193, 0, 8, 92, 655, 657, 656, 70, 0, 0, 0), (11, 221, 0, 8, 83, 687, 689, 688, 70, 0, 0, 0), (11, 224, 3, 3, 20, 695, 697, 696, 73, 0, 0, 0), (11, 228, 1, 3, 21, 712, 714, 713, 73, 0, 0, 0),
  (11, 231, 3, 3, 24, 759, 761, 760, 73, 0, 0, 0), (11, 235, 1, 3, 25, 773, 775, 774, 73, 0, 0, 0), (11, 238, 2, 3, 28, 781, 783, 782, 73, 0, 0, 0), (11, 241, 3, 3, 29, 789, 791, 790, 73, 0, 0, 0), (11, 244, 3, 3, 30, 797, 799, 798, 73, 0, 0, 0), (11, 247, 0, 8, 95, 805, 807, 806, 70, 0, 0, 0),
  (11, 250, 0, 8, 96, 809, 811, 810, 70, 0, 0, 0), (11, 253, 3, 10, 148, 817, 23, 819, 61, 0, 0, 0), (11, 256, 2, 3, 31, 821, 823, 822, 73, 0, 0, 0), (11, 263, 4, 3, 33, 833, 835, 834, 73, 0, 0, 0), (11, 267, 3, 3, 36, 849, 851, 850, 73, 0, 0, 0), (11, 271, 3, 3, 40, 874, 876, 875, 73, 0, 0, 0),
  (11, 274, 1, 8, 101, 572, 495, 494, 70, 0, 0, 0), (11, 281, 0, 5, 53, 900, 512, 513, 65, 1, 505, 504), (11, 281, 0, 7, 75, 900, 515, 516, 66, 1, 505, 504), (11, 281, 0, 0, 1, 900, 506, 507, 67, 1, 505, 504), (11, 281, 0, 9, 104, 900, 518, 519, 68, 1, 505, 504), (11, 281, 0, 2, 14, 900, 509, 510, 69, 1, 505, 504),
  (11, 288, 2, 5, 56, 912, 948, 916, 65, 2, 914, 913), (11, 288, 2, 7, 77, 912, 949, 950, 66, 2, 914, 913), (11, 288, 2, 0, 56, 912, 915, 916, 65, 2, 914, 913), (11, 288, 2, 9, 107, 912, 953, 944, 68, 2, 914, 913), (11, 288, 2, 2, 16, 912, 939, 940, 69, 2, 914, 913), (11, 292, 2, 5, 57, 955, 1364, 921, 65, 2, 1357, 936),
  (11, 292, 2, 7, 78, 955, 1365, 930, 66, 2, 1357, 936), (11, 292, 2, 0, 4, 955, 1360, 925, 67, 2, 1357, 936), (11, 292, 2, 9, 108, 955, 1366, 956, 68, 2, 1357, 936), (11, 292, 2, 2, 108, 955, 1361, 956, 68, 2, 1357, 936), (11, 295, 1, 4, 48, 964, 445, 444, 62, 0, 0, 0), (11, 298, 0, 10, 146, 969, 30, 971, 61, 0, 0, 0),
  (11, 301, 0, 8, 98, 973, 718, 717, 70, 0, 0, 0), (11, 304, 0, 8, 99, 974, 729, 728, 70, 0, 0, 0), (12, 68, 1, 11, 157, 1071, 31, 1073, 74, 0, 0, 0), (12, 72, 1, 11, 158, 1076, 32, 1078, 74, 0, 0, 0), (12, 75, 1, 11, 161, 1084, 33, 1086, 74, 0, 0, 0), (12, 82, 3, 11, 165, 1095, 34, 1097, 74, 0, 0, 0),
  (12, 95, 1, 11, 169, 1116, 36, 1118, 74, 0, 0, 0), (12, 107, 0, 11, 171, 1124, 38, 1126, 74, 0, 0, 0), (12, 114, 0, 11, 170, 1112, 35, 1114, 74, 0, 0, 0), (12, 117, 2, 11, 172, 1120, 37, 1122, 74, 0, 0, 0), (12, 121, 2, 11, 173, 1128, 39, 1130, 74, 0, 0, 0), (12, 127, 2, 11, 175, 1143, 42, 1145, 74, 0, 0, 0),
  (12, 130, 1, 11, 178, 1135, 40, 1137, 74, 0, 0, 0), (12, 134, 0, 11, 176, 1139, 41, 1141, 74, 0, 0, 0), (12, 137, 0, 11, 177, 1147, 43, 1149, 74, 0, 0, 0), (12, 167, 1, 11, 183, 1163, 44, 1165, 74, 0, 0, 0), (12, 170, 1, 11, 182, 1167, 45, 1169, 74, 0, 0, 0), (12, 174, 0, 11, 191, 1175, 46, 1177, 74, 0, 0, 0),
  (12, 185, 0, 11, 181, 1225, 47, 1227, 74, 0, 0, 0), (12, 188, 0, 11, 202, 1237, 48, 1239, 74, 0, 0, 0), (12, 191, 2, 11, 201, 1241, 49, 1243, 74, 0, 0, 0), (12, 195, 3, 11, 206, 1257, 50, 1259, 74, 0, 0, 0), (12, 201, 0, 11, 211, 1280, 51, 1282, 74, 0, 0, 0), (12, 209, 1, 11, 216, 1303, 52, 1305, 74, 0, 0, 0),
  (12, 215, 1, 11, 219, 1319, 54, 1321, 74, 0, 0, 0), (12, 219, 1, 11, 220, 1327, 56, 1329, 74, 0, 0, 0), (12, 222, 1, 11, 221, 1315, 53, 1317, 74, 0, 0, 0), (12, 225, 1, 11, 222, 1323, 55, 1325, 74, 0, 0, 0), (12, 228, 1, 11, 223, 1331, 57, 1333, 74, 0, 0, 0), (12, 231, 0, 11, 226, 1343, 58, 1345, 74, 0, 0, 0),
  (12, 235, 0, 11, 227, 1347, 59, 1349, 74, 0, 0, 0)]
end
section
/-- the words that stay true whatever has been resolved -/
def jW : List Cond := lw_tbl.filter goodWord

theorem jW_mem {w : Cond} {i : Nat} (h : lw_tbl[i]? = some w) (hg : goodWord w = true) : w ∈ jW := List.mem_filter.mpr ⟨List.mem_of_getElem? h, hg⟩

def mPl : List Nat := [132, 508, 586, 619, 926, 589, 160, 752, 580, 796, 702, 502, 537, 146, 511, 596, 941, 286, 735, 706, 698, 715, 741, 745, 762, 776, 766, 771, 784, 792, 800, 824, 828, 836, 840, 844, 852, 856, 865, 868, 877, 883, 118, 954, 937, 90, 375, 379, 446, 402, 529, 533, 115, 514, 603, 622, 917, 934, 593, 257, 422, 492, 430, 462, 469, 478, 482, 434, 455, 438, 442, 458, 465, 451, 125, 517, 607, 951, 931, 153, 426, 473, 486, 690, 558, 554, 562, 566, 576, 632, 640, 653, 658, 662, 669, 808, 812, 860, 719, 730, 887, 496, 525, 139, 520, 599, 625, 945, 957, 81, 359, 387, 398, 409, 413, 418, 546, 550, 636, 645, 649, 674, 678, 682, 686, 694, 711, 758, 780, 788, 804, 816, 832, 848, 872, 891, 895, 899, 904, 911, 963, 968, 978, 365, 362, 391, 972, 394, 820, 370, 383, 571, 542, 907, 983, 1069, 1279, 1074, 1079, 1154, 1066, 1087, 1090, 1063, 1083, 1098, 1094, 1102, 1106, 1119, 1115, 1127, 1123, 1131, 1134, 1146, 1142, 1150, 1138, 1111, 1158, 1228, 1170, 1166, 1190, 1187, 1184, 1173, 1181, 1205, 1208, 1178, 1162, 1194, 1198, 1202, 1212, 1216, 1220, 1224, 1232, 1244, 1240, 1236, 1248, 1252, 1260, 1256, 1264, 1268, 1272, 1283, 1276, 1287, 1294, 1298, 1306, 1302, 1310, 1322, 1330, 1318, 1326, 1334, 1314, 1338, 1346, 1350, 1342, 1354]

theorem mT_own : (List.range 230).all (fun m => decide ((mY m).cls = oN (mO m)) && decide (mO m < 13)) = true := by decide +kernel

theorem mT_plain : (List.range 13).all (fun o => plainName (oN o) && decide (oN o ≠ "java/lang/invoke/MethodHandle") && decide (oN o ≠ "java/lang/invoke/VarHandle")) = true := by decide +kernel

theorem mT_par : (List.range 230).all (fun m => decide ((parseMethodDescriptor (mY m).desc).map (fun d => d.parameters.length) = some (mP m)) && decide (mL m ≤ 20)) = true := by decide +kernel

theorem tF_ok : tFl.all (fun e => decide (lw_tbl[e.2.2.1]? = some (.fieldLink (oN e.1) e.2.1 (cT e.2.2.2.1 e.2.2.2.2.1).1 (cT e.2.2.2.1 e.2.2.2.2.1).2.1 (cT e.2.2.2.1 e.2.2.2.2.1).2.2.1)) && decide (e.2.2.2.2.1 < cF e.2.2.2.1) && decide (e.2.2.2.1 < 12) && decide (fR e.2.2.2.1 e.2.2.2.2.1 = (e.2.2.2.2.2.1 == 1)) && decide ((cT e.2.2.2.1 e.2.2.2.2.1).2.2.2 = (e.2.2.2.2.2.2 == 1))) = true := by decide +kernel

theorem tK_ok : tKl.all (fun e => decide (lw_tbl[e.2.2.1]? = some (.constant (oN e.1) e.2.1 (Int32.ofInt e.2.2.2)))) = true := by decide +kernel

theorem tKK_ok : tKKl.all (fun e => decide (lw_tbl[e.2.2.1]? = some (.constantLong (oN e.1) e.2.1 (Int64.ofInt e.2.2.2)))) = true := by decide +kernel

theorem tN_ok : tNl.all (fun e => decide (lw_tbl[e.2.2.1]? = some (.classLink (oN e.1) e.2.1 (cN e.2.2.2.1))) && decide (lw_tbl[e.2.2.2.2.1]? = some (.instantiable (cN e.2.2.2.1) (cF e.2.2.2.1))) && decide (lw_tbl[e.2.2.2.2.2]? = some (.initialized (cN e.2.2.2.1))) && decide (e.2.2.2.1 < 12)) = true := by decide +kernel

/-- what an array of a tag holds -/
def aT (t : Nat) : FieldType := if t = 50 then .int else if t = 51 then .boolean else if t = 52 then .object RX5 else if t = 53 then .object RX4 else .object RX1
def aC (t : Nat) : String := if t = 52 then RX5 else if t = 53 then RX4 else RX1

theorem tA_ok : tAl.all (fun e => decide (lw_tbl[e.2.2.1]? = some (.classLink (oN e.1) e.2.1 (aC e.2.2.2.1))) && decide (lw_tbl[e.2.2.2.2]? = some (.arrayOver (.object (aC e.2.2.2.1)))) && decide (52 ≤ e.2.2.2.1) && decide (e.2.2.2.1 ≤ 54)) = true := by decide +kernel

theorem tO_ok : tOl.all (fun e => decide (lw_tbl[e.2.2.1]? = some (.classLink (oN e.1) e.2.1 (oN e.2.2.2)))) = true := by decide +kernel

theorem tS_ok : tSl.all (fun e => decide (lw_tbl[e.2.2.2.1]? = some (.methodLink (oN e.1) e.2.1 (if e.2.2.2.2.2.2 = 0 then mY e.2.2.1 else ⟨oN e.1, (mY e.2.2.1).name, (mY e.2.2.1).desc⟩))) && decide (lw_tbl[e.2.2.2.2.1]? = some (.static (mY e.2.2.1))) && decide (lw_tbl[e.2.2.2.2.2.1]? = some (.initialized (mY e.2.2.1).cls)) && decide (e.2.2.1 < 230) && (e.2.2.2.2.2.2 == 0 || decide (lw_tbl[e.2.2.2.2.2.2]? = some (.sameMethod (oN e.1) (mY e.2.2.1).cls (mY e.2.2.1).name (mY e.2.2.1).desc)))) = true := by decide +kernel

theorem tM_ok : tMl.all (fun e => decide (lw_tbl[e.2.2.2]? = some (.methodLink (oN e.1) e.2.1 (match e.2.2.1 with | 0 => arraycopyName | 1 => ⟨RJ6, "bitCount", "(I)I"⟩ | 2 => Lib.Math.abs.name | 3 => Lib.Math.max.name | _ => Lib.Math.min.name)))) = true := by decide +kernel

theorem tI_ok : tIl.all (fun e => decide (lw_tbl[e.2.2.2.1]? = some (.methodLink (oN e.1) e.2.1 (mY e.2.2.1))) && decide (lw_tbl[e.2.2.2.2.1]? = some (.instanceMethod (mY e.2.2.1))) && decide (lw_tbl[e.2.2.2.2.2]? = some (.initialized (mY e.2.2.1).cls)) && decide (e.2.2.1 < 230) && decide ((mY e.2.2.1).name = "<init>") && decide (mR e.2.2.1 = none)) = true := by decide +kernel

theorem tJ_ok : tJl.all (fun e => decide (lw_tbl[e.2.2.2.1]? = some (.methodLinkNest (oN e.1) e.2.1 (mY e.2.2.1) RX11)) && decide (lw_tbl[e.2.2.2.2.1]? = some (.instanceMethod (mY e.2.2.1))) && decide (lw_tbl[e.2.2.2.2.2]? = some (.initialized (mY e.2.2.1).cls)) && decide (e.2.2.1 < 230) && decide ((mY e.2.2.1).name = "<init>") && decide (mR e.2.2.1 = none)) = true := by decide +kernel

theorem tB_ok : tBl.all (fun e => decide (lw_tbl[e.2.2]? = some (.methodLink (oN e.1) e.2.1 objectInit))) = true := by decide +kernel

theorem tP_ok : tPl.all (fun e => decide (lw_tbl[e.2.2.2.1]? = some (.methodLink (oN e.1) e.2.1 (mY e.2.2.1))) && decide (lw_tbl[e.2.2.2.2.1]? = some (.instanceMethod (mY e.2.2.1))) && decide (lw_tbl[e.2.2.2.2.2.1]? = some (.initialized (mY e.2.2.1).cls)) && decide (lw_tbl[e.2.2.2.2.2.2.1]? = some (.sameMethod (mY e.2.2.1).cls (mY e.2.2.1).cls (mY e.2.2.1).name (mY e.2.2.1).desc)) && decide (lw_tbl[e.2.2.2.2.2.2.2]? = some (.superclass (oN e.1) (mY e.2.2.1).cls)) && decide (e.2.2.1 < 230) && !((mY e.2.2.1).name == "<init>")) = true := by decide +kernel

theorem tV_ok0 : tVl.all (fun e => decide (lw_tbl[e.2.2.2.2.2.2.2.1]? = some (.instanceMethod (mY e.2.2.2.2.1))) && decide (lw_tbl[e.2.2.2.2.2.2.2.2.1]? = some (.initialized (mY e.2.2.2.2.1).cls)) && decide (e.2.2.2.2.1 < 230) && decide (mP e.2.2.2.2.1 = e.2.2.1) && decide (e.2.2.2.1 < 12)) = true := by decide +kernel

theorem tV_ok1 : tVl.all (fun e => !(e.2.2.2.2.2.2.2.2.2.1 == 0) || (decide (lw_tbl[e.2.2.2.2.2.1]? = some (.methodLink (oN e.1) e.2.1 (mY e.2.2.2.2.1))) && decide (lw_tbl[e.2.2.2.2.2.2.1]? = some (.selects (cN e.2.2.2.1) (mY e.2.2.2.2.1) (mY e.2.2.2.2.1))) && decide ((mY e.2.2.2.2.1).cls = cN e.2.2.2.1))) = true := by decide +kernel

/-- the methods that a call may name and another runs: of Kind, Plain, Throne -/
def vX (y : MethodName) (k : Nat) : MethodName := ⟨if k = 0 then RX4 else if k = 1 then RX6 else RX10, y.name, y.desc⟩
end
section
set_option maxRecDepth 100000 in
theorem mc0 : lw_tbl[132]? = some (Cond.code (mY 0) (mB 0) (mL 0) (mR 0)) := rfl
set_option maxRecDepth 100000 in
theorem mc1 : lw_tbl[508]? = some (Cond.code (mY 1) (mB 1) (mL 1) (mR 1)) := rfl
set_option maxRecDepth 100000 in
theorem mc2 : lw_tbl[586]? = some (Cond.code (mY 2) (mB 2) (mL 2) (mR 2)) := rfl
set_option maxRecDepth 100000 in
theorem mc3 : lw_tbl[619]? = some (Cond.code (mY 3) (mB 3) (mL 3) (mR 3)) := rfl
set_option maxRecDepth 100000 in
theorem mc4 : lw_tbl[926]? = some (Cond.code (mY 4) (mB 4) (mL 4) (mR 4)) := rfl
set_option maxRecDepth 100000 in
theorem mc5 : lw_tbl[589]? = some (Cond.code (mY 5) (mB 5) (mL 5) (mR 5)) := rfl
set_option maxRecDepth 100000 in
theorem mc6 : lw_tbl[160]? = some (Cond.code (mY 6) (mB 6) (mL 6) (mR 6)) := rfl
set_option maxRecDepth 100000 in
theorem mc7 : lw_tbl[752]? = some (Cond.code (mY 7) (mB 7) (mL 7) (mR 7)) := rfl
set_option maxRecDepth 100000 in
theorem mc8 : lw_tbl[580]? = some (Cond.code (mY 8) (mB 8) (mL 8) (mR 8)) := rfl
set_option maxRecDepth 100000 in
theorem mc9 : lw_tbl[796]? = some (Cond.code (mY 9) (mB 9) (mL 9) (mR 9)) := rfl
set_option maxRecDepth 100000 in
theorem mc10 : lw_tbl[702]? = some (Cond.code (mY 10) (mB 10) (mL 10) (mR 10)) := rfl
set_option maxRecDepth 100000 in
theorem mc11 : lw_tbl[502]? = some (Cond.code (mY 11) (mB 11) (mL 11) (mR 11)) := rfl
set_option maxRecDepth 100000 in
theorem mc12 : lw_tbl[537]? = some (Cond.code (mY 12) (mB 12) (mL 12) (mR 12)) := rfl
set_option maxRecDepth 100000 in
theorem mc13 : lw_tbl[146]? = some (Cond.code (mY 13) (mB 13) (mL 13) (mR 13)) := rfl
set_option maxRecDepth 100000 in
theorem mc14 : lw_tbl[511]? = some (Cond.code (mY 14) (mB 14) (mL 14) (mR 14)) := rfl
set_option maxRecDepth 100000 in
theorem mc15 : lw_tbl[596]? = some (Cond.code (mY 15) (mB 15) (mL 15) (mR 15)) := rfl
set_option maxRecDepth 100000 in
theorem mc16 : lw_tbl[941]? = some (Cond.code (mY 16) (mB 16) (mL 16) (mR 16)) := rfl
set_option maxRecDepth 100000 in
theorem mc17 : lw_tbl[286]? = some (Cond.code (mY 17) (mB 17) (mL 17) (mR 17)) := rfl
set_option maxRecDepth 100000 in
theorem mc18 : lw_tbl[735]? = some (Cond.code (mY 18) (mB 18) (mL 18) (mR 18)) := rfl
set_option maxRecDepth 100000 in
theorem mc19 : lw_tbl[706]? = some (Cond.code (mY 19) (mB 19) (mL 19) (mR 19)) := rfl
set_option maxRecDepth 100000 in
theorem mc20 : lw_tbl[698]? = some (Cond.code (mY 20) (mB 20) (mL 20) (mR 20)) := rfl
set_option maxRecDepth 100000 in
theorem mc21 : lw_tbl[715]? = some (Cond.code (mY 21) (mB 21) (mL 21) (mR 21)) := rfl
set_option maxRecDepth 100000 in
theorem mc22 : lw_tbl[741]? = some (Cond.code (mY 22) (mB 22) (mL 22) (mR 22)) := rfl
set_option maxRecDepth 100000 in
theorem mc23 : lw_tbl[745]? = some (Cond.code (mY 23) (mB 23) (mL 23) (mR 23)) := rfl
set_option maxRecDepth 100000 in
theorem mc24 : lw_tbl[762]? = some (Cond.code (mY 24) (mB 24) (mL 24) (mR 24)) := rfl
set_option maxRecDepth 100000 in
theorem mc25 : lw_tbl[776]? = some (Cond.code (mY 25) (mB 25) (mL 25) (mR 25)) := rfl
set_option maxRecDepth 100000 in
theorem mc26 : lw_tbl[766]? = some (Cond.code (mY 26) (mB 26) (mL 26) (mR 26)) := rfl
set_option maxRecDepth 100000 in
theorem mc27 : lw_tbl[771]? = some (Cond.code (mY 27) (mB 27) (mL 27) (mR 27)) := rfl
set_option maxRecDepth 100000 in
theorem mc28 : lw_tbl[784]? = some (Cond.code (mY 28) (mB 28) (mL 28) (mR 28)) := rfl
set_option maxRecDepth 100000 in
theorem mc29 : lw_tbl[792]? = some (Cond.code (mY 29) (mB 29) (mL 29) (mR 29)) := rfl
set_option maxRecDepth 100000 in
theorem mc30 : lw_tbl[800]? = some (Cond.code (mY 30) (mB 30) (mL 30) (mR 30)) := rfl
set_option maxRecDepth 100000 in
theorem mc31 : lw_tbl[824]? = some (Cond.code (mY 31) (mB 31) (mL 31) (mR 31)) := rfl
set_option maxRecDepth 100000 in
theorem mc32 : lw_tbl[828]? = some (Cond.code (mY 32) (mB 32) (mL 32) (mR 32)) := rfl
set_option maxRecDepth 100000 in
theorem mc33 : lw_tbl[836]? = some (Cond.code (mY 33) (mB 33) (mL 33) (mR 33)) := rfl
set_option maxRecDepth 100000 in
theorem mc34 : lw_tbl[840]? = some (Cond.code (mY 34) (mB 34) (mL 34) (mR 34)) := rfl
set_option maxRecDepth 100000 in
theorem mc35 : lw_tbl[844]? = some (Cond.code (mY 35) (mB 35) (mL 35) (mR 35)) := rfl
set_option maxRecDepth 100000 in
theorem mc36 : lw_tbl[852]? = some (Cond.code (mY 36) (mB 36) (mL 36) (mR 36)) := rfl
set_option maxRecDepth 100000 in
theorem mc37 : lw_tbl[856]? = some (Cond.code (mY 37) (mB 37) (mL 37) (mR 37)) := rfl
set_option maxRecDepth 100000 in
theorem mc38 : lw_tbl[865]? = some (Cond.code (mY 38) (mB 38) (mL 38) (mR 38)) := rfl
set_option maxRecDepth 100000 in
theorem mc39 : lw_tbl[868]? = some (Cond.code (mY 39) (mB 39) (mL 39) (mR 39)) := rfl
set_option maxRecDepth 100000 in
theorem mc40 : lw_tbl[877]? = some (Cond.code (mY 40) (mB 40) (mL 40) (mR 40)) := rfl
set_option maxRecDepth 100000 in
theorem mc41 : lw_tbl[883]? = some (Cond.code (mY 41) (mB 41) (mL 41) (mR 41)) := rfl
set_option maxRecDepth 100000 in
theorem mc42 : lw_tbl[118]? = some (Cond.code (mY 42) (mB 42) (mL 42) (mR 42)) := rfl
set_option maxRecDepth 100000 in
theorem mc43 : lw_tbl[954]? = some (Cond.code (mY 43) (mB 43) (mL 43) (mR 43)) := rfl
set_option maxRecDepth 100000 in
theorem mc44 : lw_tbl[937]? = some (Cond.code (mY 44) (mB 44) (mL 44) (mR 44)) := rfl
set_option maxRecDepth 100000 in
theorem mc45 : lw_tbl[90]? = some (Cond.code (mY 45) (mB 45) (mL 45) (mR 45)) := rfl
set_option maxRecDepth 100000 in
theorem mc46 : lw_tbl[375]? = some (Cond.code (mY 46) (mB 46) (mL 46) (mR 46)) := rfl
set_option maxRecDepth 100000 in
theorem mc47 : lw_tbl[379]? = some (Cond.code (mY 47) (mB 47) (mL 47) (mR 47)) := rfl
set_option maxRecDepth 100000 in
theorem mc48 : lw_tbl[446]? = some (Cond.code (mY 48) (mB 48) (mL 48) (mR 48)) := rfl
set_option maxRecDepth 100000 in
theorem mc49 : lw_tbl[402]? = some (Cond.code (mY 49) (mB 49) (mL 49) (mR 49)) := rfl
set_option maxRecDepth 100000 in
theorem mc50 : lw_tbl[529]? = some (Cond.code (mY 50) (mB 50) (mL 50) (mR 50)) := rfl
set_option maxRecDepth 100000 in
theorem mc51 : lw_tbl[533]? = some (Cond.code (mY 51) (mB 51) (mL 51) (mR 51)) := rfl
set_option maxRecDepth 100000 in
theorem mc52 : lw_tbl[115]? = some (Cond.code (mY 52) (mB 52) (mL 52) (mR 52)) := rfl
set_option maxRecDepth 100000 in
theorem mc53 : lw_tbl[514]? = some (Cond.code (mY 53) (mB 53) (mL 53) (mR 53)) := rfl
set_option maxRecDepth 100000 in
theorem mc54 : lw_tbl[603]? = some (Cond.code (mY 54) (mB 54) (mL 54) (mR 54)) := rfl
set_option maxRecDepth 100000 in
theorem mc55 : lw_tbl[622]? = some (Cond.code (mY 55) (mB 55) (mL 55) (mR 55)) := rfl
set_option maxRecDepth 100000 in
theorem mc56 : lw_tbl[917]? = some (Cond.code (mY 56) (mB 56) (mL 56) (mR 56)) := rfl
set_option maxRecDepth 100000 in
theorem mc57 : lw_tbl[934]? = some (Cond.code (mY 57) (mB 57) (mL 57) (mR 57)) := rfl
set_option maxRecDepth 100000 in
theorem mc58 : lw_tbl[593]? = some (Cond.code (mY 58) (mB 58) (mL 58) (mR 58)) := rfl
set_option maxRecDepth 100000 in
theorem mc59 : lw_tbl[257]? = some (Cond.code (mY 59) (mB 59) (mL 59) (mR 59)) := rfl
set_option maxRecDepth 100000 in
theorem mc60 : lw_tbl[422]? = some (Cond.code (mY 60) (mB 60) (mL 60) (mR 60)) := rfl
set_option maxRecDepth 100000 in
theorem mc61 : lw_tbl[492]? = some (Cond.code (mY 61) (mB 61) (mL 61) (mR 61)) := rfl
set_option maxRecDepth 100000 in
theorem mc62 : lw_tbl[430]? = some (Cond.code (mY 62) (mB 62) (mL 62) (mR 62)) := rfl
set_option maxRecDepth 100000 in
theorem mc63 : lw_tbl[462]? = some (Cond.code (mY 63) (mB 63) (mL 63) (mR 63)) := rfl
set_option maxRecDepth 100000 in
theorem mc64 : lw_tbl[469]? = some (Cond.code (mY 64) (mB 64) (mL 64) (mR 64)) := rfl
set_option maxRecDepth 100000 in
theorem mc65 : lw_tbl[478]? = some (Cond.code (mY 65) (mB 65) (mL 65) (mR 65)) := rfl
set_option maxRecDepth 100000 in
theorem mc66 : lw_tbl[482]? = some (Cond.code (mY 66) (mB 66) (mL 66) (mR 66)) := rfl
set_option maxRecDepth 100000 in
theorem mc67 : lw_tbl[434]? = some (Cond.code (mY 67) (mB 67) (mL 67) (mR 67)) := rfl
set_option maxRecDepth 100000 in
theorem mc68 : lw_tbl[455]? = some (Cond.code (mY 68) (mB 68) (mL 68) (mR 68)) := rfl
set_option maxRecDepth 100000 in
theorem mc69 : lw_tbl[438]? = some (Cond.code (mY 69) (mB 69) (mL 69) (mR 69)) := rfl
set_option maxRecDepth 100000 in
theorem mc70 : lw_tbl[442]? = some (Cond.code (mY 70) (mB 70) (mL 70) (mR 70)) := rfl
set_option maxRecDepth 100000 in
theorem mc71 : lw_tbl[458]? = some (Cond.code (mY 71) (mB 71) (mL 71) (mR 71)) := rfl
set_option maxRecDepth 100000 in
theorem mc72 : lw_tbl[465]? = some (Cond.code (mY 72) (mB 72) (mL 72) (mR 72)) := rfl
set_option maxRecDepth 100000 in
theorem mc73 : lw_tbl[451]? = some (Cond.code (mY 73) (mB 73) (mL 73) (mR 73)) := rfl
set_option maxRecDepth 100000 in
theorem mc74 : lw_tbl[125]? = some (Cond.code (mY 74) (mB 74) (mL 74) (mR 74)) := rfl
set_option maxRecDepth 100000 in
theorem mc75 : lw_tbl[517]? = some (Cond.code (mY 75) (mB 75) (mL 75) (mR 75)) := rfl
set_option maxRecDepth 100000 in
theorem mc76 : lw_tbl[607]? = some (Cond.code (mY 76) (mB 76) (mL 76) (mR 76)) := rfl
set_option maxRecDepth 100000 in
theorem mc77 : lw_tbl[951]? = some (Cond.code (mY 77) (mB 77) (mL 77) (mR 77)) := rfl
set_option maxRecDepth 100000 in
theorem mc78 : lw_tbl[931]? = some (Cond.code (mY 78) (mB 78) (mL 78) (mR 78)) := rfl
set_option maxRecDepth 100000 in
theorem mc79 : lw_tbl[153]? = some (Cond.code (mY 79) (mB 79) (mL 79) (mR 79)) := rfl
set_option maxRecDepth 100000 in
theorem mc80 : lw_tbl[426]? = some (Cond.code (mY 80) (mB 80) (mL 80) (mR 80)) := rfl
set_option maxRecDepth 100000 in
theorem mc81 : lw_tbl[473]? = some (Cond.code (mY 81) (mB 81) (mL 81) (mR 81)) := rfl
set_option maxRecDepth 100000 in
theorem mc82 : lw_tbl[486]? = some (Cond.code (mY 82) (mB 82) (mL 82) (mR 82)) := rfl
set_option maxRecDepth 100000 in
theorem mc83 : lw_tbl[690]? = some (Cond.code (mY 83) (mB 83) (mL 83) (mR 83)) := rfl
set_option maxRecDepth 100000 in
theorem mc84 : lw_tbl[558]? = some (Cond.code (mY 84) (mB 84) (mL 84) (mR 84)) := rfl
set_option maxRecDepth 100000 in
theorem mc85 : lw_tbl[554]? = some (Cond.code (mY 85) (mB 85) (mL 85) (mR 85)) := rfl
set_option maxRecDepth 100000 in
theorem mc86 : lw_tbl[562]? = some (Cond.code (mY 86) (mB 86) (mL 86) (mR 86)) := rfl
set_option maxRecDepth 100000 in
theorem mc87 : lw_tbl[566]? = some (Cond.code (mY 87) (mB 87) (mL 87) (mR 87)) := rfl
set_option maxRecDepth 100000 in
theorem mc88 : lw_tbl[576]? = some (Cond.code (mY 88) (mB 88) (mL 88) (mR 88)) := rfl
set_option maxRecDepth 100000 in
theorem mc89 : lw_tbl[632]? = some (Cond.code (mY 89) (mB 89) (mL 89) (mR 89)) := rfl
set_option maxRecDepth 100000 in
theorem mc90 : lw_tbl[640]? = some (Cond.code (mY 90) (mB 90) (mL 90) (mR 90)) := rfl
set_option maxRecDepth 100000 in
theorem mc91 : lw_tbl[653]? = some (Cond.code (mY 91) (mB 91) (mL 91) (mR 91)) := rfl
set_option maxRecDepth 100000 in
theorem mc92 : lw_tbl[658]? = some (Cond.code (mY 92) (mB 92) (mL 92) (mR 92)) := rfl
set_option maxRecDepth 100000 in
theorem mc93 : lw_tbl[662]? = some (Cond.code (mY 93) (mB 93) (mL 93) (mR 93)) := rfl
set_option maxRecDepth 100000 in
theorem mc94 : lw_tbl[669]? = some (Cond.code (mY 94) (mB 94) (mL 94) (mR 94)) := rfl
set_option maxRecDepth 100000 in
theorem mc95 : lw_tbl[808]? = some (Cond.code (mY 95) (mB 95) (mL 95) (mR 95)) := rfl
set_option maxRecDepth 100000 in
theorem mc96 : lw_tbl[812]? = some (Cond.code (mY 96) (mB 96) (mL 96) (mR 96)) := rfl
set_option maxRecDepth 100000 in
theorem mc97 : lw_tbl[860]? = some (Cond.code (mY 97) (mB 97) (mL 97) (mR 97)) := rfl
set_option maxRecDepth 100000 in
theorem mc98 : lw_tbl[719]? = some (Cond.code (mY 98) (mB 98) (mL 98) (mR 98)) := rfl
set_option maxRecDepth 100000 in
theorem mc99 : lw_tbl[730]? = some (Cond.code (mY 99) (mB 99) (mL 99) (mR 99)) := rfl
set_option maxRecDepth 100000 in
theorem mc100 : lw_tbl[887]? = some (Cond.code (mY 100) (mB 100) (mL 100) (mR 100)) := rfl
set_option maxRecDepth 100000 in
theorem mc101 : lw_tbl[496]? = some (Cond.code (mY 101) (mB 101) (mL 101) (mR 101)) := rfl
set_option maxRecDepth 100000 in
theorem mc102 : lw_tbl[525]? = some (Cond.code (mY 102) (mB 102) (mL 102) (mR 102)) := rfl
set_option maxRecDepth 100000 in
theorem mc103 : lw_tbl[139]? = some (Cond.code (mY 103) (mB 103) (mL 103) (mR 103)) := rfl
set_option maxRecDepth 100000 in
theorem mc104 : lw_tbl[520]? = some (Cond.code (mY 104) (mB 104) (mL 104) (mR 104)) := rfl
set_option maxRecDepth 100000 in
theorem mc105 : lw_tbl[599]? = some (Cond.code (mY 105) (mB 105) (mL 105) (mR 105)) := rfl
set_option maxRecDepth 100000 in
theorem mc106 : lw_tbl[625]? = some (Cond.code (mY 106) (mB 106) (mL 106) (mR 106)) := rfl
set_option maxRecDepth 100000 in
theorem mc107 : lw_tbl[945]? = some (Cond.code (mY 107) (mB 107) (mL 107) (mR 107)) := rfl
set_option maxRecDepth 100000 in
theorem mc108 : lw_tbl[957]? = some (Cond.code (mY 108) (mB 108) (mL 108) (mR 108)) := rfl
set_option maxRecDepth 100000 in
theorem mc109 : lw_tbl[81]? = some (Cond.code (mY 109) (mB 109) (mL 109) (mR 109)) := rfl
set_option maxRecDepth 100000 in
theorem mc110 : lw_tbl[359]? = some (Cond.code (mY 110) (mB 110) (mL 110) (mR 110)) := rfl
set_option maxRecDepth 100000 in
theorem mc111 : lw_tbl[387]? = some (Cond.code (mY 111) (mB 111) (mL 111) (mR 111)) := rfl
set_option maxRecDepth 100000 in
theorem mc112 : lw_tbl[398]? = some (Cond.code (mY 112) (mB 112) (mL 112) (mR 112)) := rfl
set_option maxRecDepth 100000 in
theorem mc113 : lw_tbl[409]? = some (Cond.code (mY 113) (mB 113) (mL 113) (mR 113)) := rfl
set_option maxRecDepth 100000 in
theorem mc114 : lw_tbl[413]? = some (Cond.code (mY 114) (mB 114) (mL 114) (mR 114)) := rfl
set_option maxRecDepth 100000 in
theorem mc115 : lw_tbl[418]? = some (Cond.code (mY 115) (mB 115) (mL 115) (mR 115)) := rfl
set_option maxRecDepth 100000 in
theorem mc116 : lw_tbl[546]? = some (Cond.code (mY 116) (mB 116) (mL 116) (mR 116)) := rfl
set_option maxRecDepth 100000 in
theorem mc117 : lw_tbl[550]? = some (Cond.code (mY 117) (mB 117) (mL 117) (mR 117)) := rfl
set_option maxRecDepth 100000 in
theorem mc118 : lw_tbl[636]? = some (Cond.code (mY 118) (mB 118) (mL 118) (mR 118)) := rfl
set_option maxRecDepth 100000 in
theorem mc119 : lw_tbl[645]? = some (Cond.code (mY 119) (mB 119) (mL 119) (mR 119)) := rfl
set_option maxRecDepth 100000 in
theorem mc120 : lw_tbl[649]? = some (Cond.code (mY 120) (mB 120) (mL 120) (mR 120)) := rfl
set_option maxRecDepth 100000 in
theorem mc121 : lw_tbl[674]? = some (Cond.code (mY 121) (mB 121) (mL 121) (mR 121)) := rfl
set_option maxRecDepth 100000 in
theorem mc122 : lw_tbl[678]? = some (Cond.code (mY 122) (mB 122) (mL 122) (mR 122)) := rfl
set_option maxRecDepth 100000 in
theorem mc123 : lw_tbl[682]? = some (Cond.code (mY 123) (mB 123) (mL 123) (mR 123)) := rfl
set_option maxRecDepth 100000 in
theorem mc124 : lw_tbl[686]? = some (Cond.code (mY 124) (mB 124) (mL 124) (mR 124)) := rfl
set_option maxRecDepth 100000 in
theorem mc125 : lw_tbl[694]? = some (Cond.code (mY 125) (mB 125) (mL 125) (mR 125)) := rfl
set_option maxRecDepth 100000 in
theorem mc126 : lw_tbl[711]? = some (Cond.code (mY 126) (mB 126) (mL 126) (mR 126)) := rfl
set_option maxRecDepth 100000 in
theorem mc127 : lw_tbl[758]? = some (Cond.code (mY 127) (mB 127) (mL 127) (mR 127)) := rfl
set_option maxRecDepth 100000 in
theorem mc128 : lw_tbl[780]? = some (Cond.code (mY 128) (mB 128) (mL 128) (mR 128)) := rfl
set_option maxRecDepth 100000 in
theorem mc129 : lw_tbl[788]? = some (Cond.code (mY 129) (mB 129) (mL 129) (mR 129)) := rfl
set_option maxRecDepth 100000 in
theorem mc130 : lw_tbl[804]? = some (Cond.code (mY 130) (mB 130) (mL 130) (mR 130)) := rfl
set_option maxRecDepth 100000 in
theorem mc131 : lw_tbl[816]? = some (Cond.code (mY 131) (mB 131) (mL 131) (mR 131)) := rfl
set_option maxRecDepth 100000 in
theorem mc132 : lw_tbl[832]? = some (Cond.code (mY 132) (mB 132) (mL 132) (mR 132)) := rfl
set_option maxRecDepth 100000 in
theorem mc133 : lw_tbl[848]? = some (Cond.code (mY 133) (mB 133) (mL 133) (mR 133)) := rfl
set_option maxRecDepth 100000 in
theorem mc134 : lw_tbl[872]? = some (Cond.code (mY 134) (mB 134) (mL 134) (mR 134)) := rfl
set_option maxRecDepth 100000 in
theorem mc135 : lw_tbl[891]? = some (Cond.code (mY 135) (mB 135) (mL 135) (mR 135)) := rfl
set_option maxRecDepth 100000 in
theorem mc136 : lw_tbl[895]? = some (Cond.code (mY 136) (mB 136) (mL 136) (mR 136)) := rfl
set_option maxRecDepth 100000 in
theorem mc137 : lw_tbl[899]? = some (Cond.code (mY 137) (mB 137) (mL 137) (mR 137)) := rfl
set_option maxRecDepth 100000 in
theorem mc138 : lw_tbl[904]? = some (Cond.code (mY 138) (mB 138) (mL 138) (mR 138)) := rfl
set_option maxRecDepth 100000 in
theorem mc139 : lw_tbl[911]? = some (Cond.code (mY 139) (mB 139) (mL 139) (mR 139)) := rfl
set_option maxRecDepth 100000 in
theorem mc140 : lw_tbl[963]? = some (Cond.code (mY 140) (mB 140) (mL 140) (mR 140)) := rfl
set_option maxRecDepth 100000 in
theorem mc141 : lw_tbl[968]? = some (Cond.code (mY 141) (mB 141) (mL 141) (mR 141)) := rfl
set_option maxRecDepth 100000 in
theorem mc142 : lw_tbl[978]? = some (Cond.code (mY 142) (mB 142) (mL 142) (mR 142)) := rfl
set_option maxRecDepth 100000 in
theorem mc143 : lw_tbl[365]? = some (Cond.code (mY 143) (mB 143) (mL 143) (mR 143)) := rfl
set_option maxRecDepth 100000 in
theorem mc144 : lw_tbl[362]? = some (Cond.code (mY 144) (mB 144) (mL 144) (mR 144)) := rfl
set_option maxRecDepth 100000 in
theorem mc145 : lw_tbl[391]? = some (Cond.code (mY 145) (mB 145) (mL 145) (mR 145)) := rfl
set_option maxRecDepth 100000 in
theorem mc146 : lw_tbl[972]? = some (Cond.code (mY 146) (mB 146) (mL 146) (mR 146)) := rfl
set_option maxRecDepth 100000 in
theorem mc147 : lw_tbl[394]? = some (Cond.code (mY 147) (mB 147) (mL 147) (mR 147)) := rfl
set_option maxRecDepth 100000 in
theorem mc148 : lw_tbl[820]? = some (Cond.code (mY 148) (mB 148) (mL 148) (mR 148)) := rfl
set_option maxRecDepth 100000 in
theorem mc149 : lw_tbl[370]? = some (Cond.code (mY 149) (mB 149) (mL 149) (mR 149)) := rfl
set_option maxRecDepth 100000 in
theorem mc150 : lw_tbl[383]? = some (Cond.code (mY 150) (mB 150) (mL 150) (mR 150)) := rfl
set_option maxRecDepth 100000 in
theorem mc151 : lw_tbl[571]? = some (Cond.code (mY 151) (mB 151) (mL 151) (mR 151)) := rfl
set_option maxRecDepth 100000 in
theorem mc152 : lw_tbl[542]? = some (Cond.code (mY 152) (mB 152) (mL 152) (mR 152)) := rfl
set_option maxRecDepth 100000 in
theorem mc153 : lw_tbl[907]? = some (Cond.code (mY 153) (mB 153) (mL 153) (mR 153)) := rfl
set_option maxRecDepth 100000 in
theorem mc154 : lw_tbl[983]? = some (Cond.code (mY 154) (mB 154) (mL 154) (mR 154)) := rfl
set_option maxRecDepth 100000 in
theorem mc155 : lw_tbl[1069]? = some (Cond.code (mY 155) (mB 155) (mL 155) (mR 155)) := rfl
set_option maxRecDepth 100000 in
theorem mc156 : lw_tbl[1279]? = some (Cond.code (mY 156) (mB 156) (mL 156) (mR 156)) := rfl
set_option maxRecDepth 100000 in
theorem mc157 : lw_tbl[1074]? = some (Cond.code (mY 157) (mB 157) (mL 157) (mR 157)) := rfl
set_option maxRecDepth 100000 in
theorem mc158 : lw_tbl[1079]? = some (Cond.code (mY 158) (mB 158) (mL 158) (mR 158)) := rfl
set_option maxRecDepth 100000 in
theorem mc159 : lw_tbl[1154]? = some (Cond.code (mY 159) (mB 159) (mL 159) (mR 159)) := rfl
set_option maxRecDepth 100000 in
theorem mc160 : lw_tbl[1066]? = some (Cond.code (mY 160) (mB 160) (mL 160) (mR 160)) := rfl
set_option maxRecDepth 100000 in
theorem mc161 : lw_tbl[1087]? = some (Cond.code (mY 161) (mB 161) (mL 161) (mR 161)) := rfl
set_option maxRecDepth 100000 in
theorem mc162 : lw_tbl[1090]? = some (Cond.code (mY 162) (mB 162) (mL 162) (mR 162)) := rfl
set_option maxRecDepth 100000 in
theorem mc163 : lw_tbl[1063]? = some (Cond.code (mY 163) (mB 163) (mL 163) (mR 163)) := rfl
set_option maxRecDepth 100000 in
theorem mc164 : lw_tbl[1083]? = some (Cond.code (mY 164) (mB 164) (mL 164) (mR 164)) := rfl
set_option maxRecDepth 100000 in
theorem mc165 : lw_tbl[1098]? = some (Cond.code (mY 165) (mB 165) (mL 165) (mR 165)) := rfl
set_option maxRecDepth 100000 in
theorem mc166 : lw_tbl[1094]? = some (Cond.code (mY 166) (mB 166) (mL 166) (mR 166)) := rfl
set_option maxRecDepth 100000 in
theorem mc167 : lw_tbl[1102]? = some (Cond.code (mY 167) (mB 167) (mL 167) (mR 167)) := rfl
set_option maxRecDepth 100000 in
theorem mc168 : lw_tbl[1106]? = some (Cond.code (mY 168) (mB 168) (mL 168) (mR 168)) := rfl
set_option maxRecDepth 100000 in
theorem mc169 : lw_tbl[1119]? = some (Cond.code (mY 169) (mB 169) (mL 169) (mR 169)) := rfl
set_option maxRecDepth 100000 in
theorem mc170 : lw_tbl[1115]? = some (Cond.code (mY 170) (mB 170) (mL 170) (mR 170)) := rfl
set_option maxRecDepth 100000 in
theorem mc171 : lw_tbl[1127]? = some (Cond.code (mY 171) (mB 171) (mL 171) (mR 171)) := rfl
set_option maxRecDepth 100000 in
theorem mc172 : lw_tbl[1123]? = some (Cond.code (mY 172) (mB 172) (mL 172) (mR 172)) := rfl
set_option maxRecDepth 100000 in
theorem mc173 : lw_tbl[1131]? = some (Cond.code (mY 173) (mB 173) (mL 173) (mR 173)) := rfl
set_option maxRecDepth 100000 in
theorem mc174 : lw_tbl[1134]? = some (Cond.code (mY 174) (mB 174) (mL 174) (mR 174)) := rfl
set_option maxRecDepth 100000 in
theorem mc175 : lw_tbl[1146]? = some (Cond.code (mY 175) (mB 175) (mL 175) (mR 175)) := rfl
set_option maxRecDepth 100000 in
theorem mc176 : lw_tbl[1142]? = some (Cond.code (mY 176) (mB 176) (mL 176) (mR 176)) := rfl
set_option maxRecDepth 100000 in
theorem mc177 : lw_tbl[1150]? = some (Cond.code (mY 177) (mB 177) (mL 177) (mR 177)) := rfl
set_option maxRecDepth 100000 in
theorem mc178 : lw_tbl[1138]? = some (Cond.code (mY 178) (mB 178) (mL 178) (mR 178)) := rfl
set_option maxRecDepth 100000 in
theorem mc179 : lw_tbl[1111]? = some (Cond.code (mY 179) (mB 179) (mL 179) (mR 179)) := rfl
set_option maxRecDepth 100000 in
theorem mc180 : lw_tbl[1158]? = some (Cond.code (mY 180) (mB 180) (mL 180) (mR 180)) := rfl
set_option maxRecDepth 100000 in
theorem mc181 : lw_tbl[1228]? = some (Cond.code (mY 181) (mB 181) (mL 181) (mR 181)) := rfl
set_option maxRecDepth 100000 in
theorem mc182 : lw_tbl[1170]? = some (Cond.code (mY 182) (mB 182) (mL 182) (mR 182)) := rfl
set_option maxRecDepth 100000 in
theorem mc183 : lw_tbl[1166]? = some (Cond.code (mY 183) (mB 183) (mL 183) (mR 183)) := rfl
set_option maxRecDepth 100000 in
theorem mc184 : lw_tbl[1190]? = some (Cond.code (mY 184) (mB 184) (mL 184) (mR 184)) := rfl
set_option maxRecDepth 100000 in
theorem mc185 : lw_tbl[1187]? = some (Cond.code (mY 185) (mB 185) (mL 185) (mR 185)) := rfl
set_option maxRecDepth 100000 in
theorem mc186 : lw_tbl[1184]? = some (Cond.code (mY 186) (mB 186) (mL 186) (mR 186)) := rfl
set_option maxRecDepth 100000 in
theorem mc187 : lw_tbl[1173]? = some (Cond.code (mY 187) (mB 187) (mL 187) (mR 187)) := rfl
set_option maxRecDepth 100000 in
theorem mc188 : lw_tbl[1181]? = some (Cond.code (mY 188) (mB 188) (mL 188) (mR 188)) := rfl
set_option maxRecDepth 100000 in
theorem mc189 : lw_tbl[1205]? = some (Cond.code (mY 189) (mB 189) (mL 189) (mR 189)) := rfl
set_option maxRecDepth 100000 in
theorem mc190 : lw_tbl[1208]? = some (Cond.code (mY 190) (mB 190) (mL 190) (mR 190)) := rfl
set_option maxRecDepth 100000 in
theorem mc191 : lw_tbl[1178]? = some (Cond.code (mY 191) (mB 191) (mL 191) (mR 191)) := rfl
set_option maxRecDepth 100000 in
theorem mc192 : lw_tbl[1162]? = some (Cond.code (mY 192) (mB 192) (mL 192) (mR 192)) := rfl
set_option maxRecDepth 100000 in
theorem mc193 : lw_tbl[1194]? = some (Cond.code (mY 193) (mB 193) (mL 193) (mR 193)) := rfl
set_option maxRecDepth 100000 in
theorem mc194 : lw_tbl[1198]? = some (Cond.code (mY 194) (mB 194) (mL 194) (mR 194)) := rfl
set_option maxRecDepth 100000 in
theorem mc195 : lw_tbl[1202]? = some (Cond.code (mY 195) (mB 195) (mL 195) (mR 195)) := rfl
set_option maxRecDepth 100000 in
theorem mc196 : lw_tbl[1212]? = some (Cond.code (mY 196) (mB 196) (mL 196) (mR 196)) := rfl
set_option maxRecDepth 100000 in
theorem mc197 : lw_tbl[1216]? = some (Cond.code (mY 197) (mB 197) (mL 197) (mR 197)) := rfl
set_option maxRecDepth 100000 in
theorem mc198 : lw_tbl[1220]? = some (Cond.code (mY 198) (mB 198) (mL 198) (mR 198)) := rfl
set_option maxRecDepth 100000 in
theorem mc199 : lw_tbl[1224]? = some (Cond.code (mY 199) (mB 199) (mL 199) (mR 199)) := rfl
set_option maxRecDepth 100000 in
theorem mc200 : lw_tbl[1232]? = some (Cond.code (mY 200) (mB 200) (mL 200) (mR 200)) := rfl
set_option maxRecDepth 100000 in
theorem mc201 : lw_tbl[1244]? = some (Cond.code (mY 201) (mB 201) (mL 201) (mR 201)) := rfl
set_option maxRecDepth 100000 in
theorem mc202 : lw_tbl[1240]? = some (Cond.code (mY 202) (mB 202) (mL 202) (mR 202)) := rfl
set_option maxRecDepth 100000 in
theorem mc203 : lw_tbl[1236]? = some (Cond.code (mY 203) (mB 203) (mL 203) (mR 203)) := rfl
set_option maxRecDepth 100000 in
theorem mc204 : lw_tbl[1248]? = some (Cond.code (mY 204) (mB 204) (mL 204) (mR 204)) := rfl
set_option maxRecDepth 100000 in
theorem mc205 : lw_tbl[1252]? = some (Cond.code (mY 205) (mB 205) (mL 205) (mR 205)) := rfl
set_option maxRecDepth 100000 in
theorem mc206 : lw_tbl[1260]? = some (Cond.code (mY 206) (mB 206) (mL 206) (mR 206)) := rfl
set_option maxRecDepth 100000 in
theorem mc207 : lw_tbl[1256]? = some (Cond.code (mY 207) (mB 207) (mL 207) (mR 207)) := rfl
set_option maxRecDepth 100000 in
theorem mc208 : lw_tbl[1264]? = some (Cond.code (mY 208) (mB 208) (mL 208) (mR 208)) := rfl
set_option maxRecDepth 100000 in
theorem mc209 : lw_tbl[1268]? = some (Cond.code (mY 209) (mB 209) (mL 209) (mR 209)) := rfl
set_option maxRecDepth 100000 in
theorem mc210 : lw_tbl[1272]? = some (Cond.code (mY 210) (mB 210) (mL 210) (mR 210)) := rfl
set_option maxRecDepth 100000 in
theorem mc211 : lw_tbl[1283]? = some (Cond.code (mY 211) (mB 211) (mL 211) (mR 211)) := rfl
set_option maxRecDepth 100000 in
theorem mc212 : lw_tbl[1276]? = some (Cond.code (mY 212) (mB 212) (mL 212) (mR 212)) := rfl
set_option maxRecDepth 100000 in
theorem mc213 : lw_tbl[1287]? = some (Cond.code (mY 213) (mB 213) (mL 213) (mR 213)) := rfl
set_option maxRecDepth 100000 in
theorem mc214 : lw_tbl[1294]? = some (Cond.code (mY 214) (mB 214) (mL 214) (mR 214)) := rfl
set_option maxRecDepth 100000 in
theorem mc215 : lw_tbl[1298]? = some (Cond.code (mY 215) (mB 215) (mL 215) (mR 215)) := rfl
set_option maxRecDepth 100000 in
theorem mc216 : lw_tbl[1306]? = some (Cond.code (mY 216) (mB 216) (mL 216) (mR 216)) := rfl
set_option maxRecDepth 100000 in
theorem mc217 : lw_tbl[1302]? = some (Cond.code (mY 217) (mB 217) (mL 217) (mR 217)) := rfl
set_option maxRecDepth 100000 in
theorem mc218 : lw_tbl[1310]? = some (Cond.code (mY 218) (mB 218) (mL 218) (mR 218)) := rfl
set_option maxRecDepth 100000 in
theorem mc219 : lw_tbl[1322]? = some (Cond.code (mY 219) (mB 219) (mL 219) (mR 219)) := rfl
set_option maxRecDepth 100000 in
theorem mc220 : lw_tbl[1330]? = some (Cond.code (mY 220) (mB 220) (mL 220) (mR 220)) := rfl
set_option maxRecDepth 100000 in
theorem mc221 : lw_tbl[1318]? = some (Cond.code (mY 221) (mB 221) (mL 221) (mR 221)) := rfl
set_option maxRecDepth 100000 in
theorem mc222 : lw_tbl[1326]? = some (Cond.code (mY 222) (mB 222) (mL 222) (mR 222)) := rfl
set_option maxRecDepth 100000 in
theorem mc223 : lw_tbl[1334]? = some (Cond.code (mY 223) (mB 223) (mL 223) (mR 223)) := rfl
set_option maxRecDepth 100000 in
theorem mc224 : lw_tbl[1314]? = some (Cond.code (mY 224) (mB 224) (mL 224) (mR 224)) := rfl
set_option maxRecDepth 100000 in
theorem mc225 : lw_tbl[1338]? = some (Cond.code (mY 225) (mB 225) (mL 225) (mR 225)) := rfl
set_option maxRecDepth 100000 in
theorem mc226 : lw_tbl[1346]? = some (Cond.code (mY 226) (mB 226) (mL 226) (mR 226)) := rfl
set_option maxRecDepth 100000 in
theorem mc227 : lw_tbl[1350]? = some (Cond.code (mY 227) (mB 227) (mL 227) (mR 227)) := rfl
set_option maxRecDepth 100000 in
theorem mc228 : lw_tbl[1342]? = some (Cond.code (mY 228) (mB 228) (mL 228) (mR 228)) := rfl
set_option maxRecDepth 100000 in
theorem mc229 : lw_tbl[1354]? = some (Cond.code (mY 229) (mB 229) (mL 229) (mR 229)) := rfl
theorem mT_code (m : Nat) (h : m < 230) : Cond.code (mY m) (mB m) (mL m) (mR m) ∈ jW := by
  match m, h with
  | 0, _ => exact jW_mem mc0 rfl
  | 1, _ => exact jW_mem mc1 rfl
  | 2, _ => exact jW_mem mc2 rfl
  | 3, _ => exact jW_mem mc3 rfl
  | 4, _ => exact jW_mem mc4 rfl
  | 5, _ => exact jW_mem mc5 rfl
  | 6, _ => exact jW_mem mc6 rfl
  | 7, _ => exact jW_mem mc7 rfl
  | 8, _ => exact jW_mem mc8 rfl
  | 9, _ => exact jW_mem mc9 rfl
  | 10, _ => exact jW_mem mc10 rfl
  | 11, _ => exact jW_mem mc11 rfl
  | 12, _ => exact jW_mem mc12 rfl
  | 13, _ => exact jW_mem mc13 rfl
  | 14, _ => exact jW_mem mc14 rfl
  | 15, _ => exact jW_mem mc15 rfl
  | 16, _ => exact jW_mem mc16 rfl
  | 17, _ => exact jW_mem mc17 rfl
  | 18, _ => exact jW_mem mc18 rfl
  | 19, _ => exact jW_mem mc19 rfl
  | 20, _ => exact jW_mem mc20 rfl
  | 21, _ => exact jW_mem mc21 rfl
  | 22, _ => exact jW_mem mc22 rfl
  | 23, _ => exact jW_mem mc23 rfl
  | 24, _ => exact jW_mem mc24 rfl
  | 25, _ => exact jW_mem mc25 rfl
  | 26, _ => exact jW_mem mc26 rfl
  | 27, _ => exact jW_mem mc27 rfl
  | 28, _ => exact jW_mem mc28 rfl
  | 29, _ => exact jW_mem mc29 rfl
  | 30, _ => exact jW_mem mc30 rfl
  | 31, _ => exact jW_mem mc31 rfl
  | 32, _ => exact jW_mem mc32 rfl
  | 33, _ => exact jW_mem mc33 rfl
  | 34, _ => exact jW_mem mc34 rfl
  | 35, _ => exact jW_mem mc35 rfl
  | 36, _ => exact jW_mem mc36 rfl
  | 37, _ => exact jW_mem mc37 rfl
  | 38, _ => exact jW_mem mc38 rfl
  | 39, _ => exact jW_mem mc39 rfl
  | 40, _ => exact jW_mem mc40 rfl
  | 41, _ => exact jW_mem mc41 rfl
  | 42, _ => exact jW_mem mc42 rfl
  | 43, _ => exact jW_mem mc43 rfl
  | 44, _ => exact jW_mem mc44 rfl
  | 45, _ => exact jW_mem mc45 rfl
  | 46, _ => exact jW_mem mc46 rfl
  | 47, _ => exact jW_mem mc47 rfl
  | 48, _ => exact jW_mem mc48 rfl
  | 49, _ => exact jW_mem mc49 rfl
  | 50, _ => exact jW_mem mc50 rfl
  | 51, _ => exact jW_mem mc51 rfl
  | 52, _ => exact jW_mem mc52 rfl
  | 53, _ => exact jW_mem mc53 rfl
  | 54, _ => exact jW_mem mc54 rfl
  | 55, _ => exact jW_mem mc55 rfl
  | 56, _ => exact jW_mem mc56 rfl
  | 57, _ => exact jW_mem mc57 rfl
  | 58, _ => exact jW_mem mc58 rfl
  | 59, _ => exact jW_mem mc59 rfl
  | 60, _ => exact jW_mem mc60 rfl
  | 61, _ => exact jW_mem mc61 rfl
  | 62, _ => exact jW_mem mc62 rfl
  | 63, _ => exact jW_mem mc63 rfl
  | 64, _ => exact jW_mem mc64 rfl
  | 65, _ => exact jW_mem mc65 rfl
  | 66, _ => exact jW_mem mc66 rfl
  | 67, _ => exact jW_mem mc67 rfl
  | 68, _ => exact jW_mem mc68 rfl
  | 69, _ => exact jW_mem mc69 rfl
  | 70, _ => exact jW_mem mc70 rfl
  | 71, _ => exact jW_mem mc71 rfl
  | 72, _ => exact jW_mem mc72 rfl
  | 73, _ => exact jW_mem mc73 rfl
  | 74, _ => exact jW_mem mc74 rfl
  | 75, _ => exact jW_mem mc75 rfl
  | 76, _ => exact jW_mem mc76 rfl
  | 77, _ => exact jW_mem mc77 rfl
  | 78, _ => exact jW_mem mc78 rfl
  | 79, _ => exact jW_mem mc79 rfl
  | 80, _ => exact jW_mem mc80 rfl
  | 81, _ => exact jW_mem mc81 rfl
  | 82, _ => exact jW_mem mc82 rfl
  | 83, _ => exact jW_mem mc83 rfl
  | 84, _ => exact jW_mem mc84 rfl
  | 85, _ => exact jW_mem mc85 rfl
  | 86, _ => exact jW_mem mc86 rfl
  | 87, _ => exact jW_mem mc87 rfl
  | 88, _ => exact jW_mem mc88 rfl
  | 89, _ => exact jW_mem mc89 rfl
  | 90, _ => exact jW_mem mc90 rfl
  | 91, _ => exact jW_mem mc91 rfl
  | 92, _ => exact jW_mem mc92 rfl
  | 93, _ => exact jW_mem mc93 rfl
  | 94, _ => exact jW_mem mc94 rfl
  | 95, _ => exact jW_mem mc95 rfl
  | 96, _ => exact jW_mem mc96 rfl
  | 97, _ => exact jW_mem mc97 rfl
  | 98, _ => exact jW_mem mc98 rfl
  | 99, _ => exact jW_mem mc99 rfl
  | 100, _ => exact jW_mem mc100 rfl
  | 101, _ => exact jW_mem mc101 rfl
  | 102, _ => exact jW_mem mc102 rfl
  | 103, _ => exact jW_mem mc103 rfl
  | 104, _ => exact jW_mem mc104 rfl
  | 105, _ => exact jW_mem mc105 rfl
  | 106, _ => exact jW_mem mc106 rfl
  | 107, _ => exact jW_mem mc107 rfl
  | 108, _ => exact jW_mem mc108 rfl
  | 109, _ => exact jW_mem mc109 rfl
  | 110, _ => exact jW_mem mc110 rfl
  | 111, _ => exact jW_mem mc111 rfl
  | 112, _ => exact jW_mem mc112 rfl
  | 113, _ => exact jW_mem mc113 rfl
  | 114, _ => exact jW_mem mc114 rfl
  | 115, _ => exact jW_mem mc115 rfl
  | 116, _ => exact jW_mem mc116 rfl
  | 117, _ => exact jW_mem mc117 rfl
  | 118, _ => exact jW_mem mc118 rfl
  | 119, _ => exact jW_mem mc119 rfl
  | 120, _ => exact jW_mem mc120 rfl
  | 121, _ => exact jW_mem mc121 rfl
  | 122, _ => exact jW_mem mc122 rfl
  | 123, _ => exact jW_mem mc123 rfl
  | 124, _ => exact jW_mem mc124 rfl
  | 125, _ => exact jW_mem mc125 rfl
  | 126, _ => exact jW_mem mc126 rfl
  | 127, _ => exact jW_mem mc127 rfl
  | 128, _ => exact jW_mem mc128 rfl
  | 129, _ => exact jW_mem mc129 rfl
  | 130, _ => exact jW_mem mc130 rfl
  | 131, _ => exact jW_mem mc131 rfl
  | 132, _ => exact jW_mem mc132 rfl
  | 133, _ => exact jW_mem mc133 rfl
  | 134, _ => exact jW_mem mc134 rfl
  | 135, _ => exact jW_mem mc135 rfl
  | 136, _ => exact jW_mem mc136 rfl
  | 137, _ => exact jW_mem mc137 rfl
  | 138, _ => exact jW_mem mc138 rfl
  | 139, _ => exact jW_mem mc139 rfl
  | 140, _ => exact jW_mem mc140 rfl
  | 141, _ => exact jW_mem mc141 rfl
  | 142, _ => exact jW_mem mc142 rfl
  | 143, _ => exact jW_mem mc143 rfl
  | 144, _ => exact jW_mem mc144 rfl
  | 145, _ => exact jW_mem mc145 rfl
  | 146, _ => exact jW_mem mc146 rfl
  | 147, _ => exact jW_mem mc147 rfl
  | 148, _ => exact jW_mem mc148 rfl
  | 149, _ => exact jW_mem mc149 rfl
  | 150, _ => exact jW_mem mc150 rfl
  | 151, _ => exact jW_mem mc151 rfl
  | 152, _ => exact jW_mem mc152 rfl
  | 153, _ => exact jW_mem mc153 rfl
  | 154, _ => exact jW_mem mc154 rfl
  | 155, _ => exact jW_mem mc155 rfl
  | 156, _ => exact jW_mem mc156 rfl
  | 157, _ => exact jW_mem mc157 rfl
  | 158, _ => exact jW_mem mc158 rfl
  | 159, _ => exact jW_mem mc159 rfl
  | 160, _ => exact jW_mem mc160 rfl
  | 161, _ => exact jW_mem mc161 rfl
  | 162, _ => exact jW_mem mc162 rfl
  | 163, _ => exact jW_mem mc163 rfl
  | 164, _ => exact jW_mem mc164 rfl
  | 165, _ => exact jW_mem mc165 rfl
  | 166, _ => exact jW_mem mc166 rfl
  | 167, _ => exact jW_mem mc167 rfl
  | 168, _ => exact jW_mem mc168 rfl
  | 169, _ => exact jW_mem mc169 rfl
  | 170, _ => exact jW_mem mc170 rfl
  | 171, _ => exact jW_mem mc171 rfl
  | 172, _ => exact jW_mem mc172 rfl
  | 173, _ => exact jW_mem mc173 rfl
  | 174, _ => exact jW_mem mc174 rfl
  | 175, _ => exact jW_mem mc175 rfl
  | 176, _ => exact jW_mem mc176 rfl
  | 177, _ => exact jW_mem mc177 rfl
  | 178, _ => exact jW_mem mc178 rfl
  | 179, _ => exact jW_mem mc179 rfl
  | 180, _ => exact jW_mem mc180 rfl
  | 181, _ => exact jW_mem mc181 rfl
  | 182, _ => exact jW_mem mc182 rfl
  | 183, _ => exact jW_mem mc183 rfl
  | 184, _ => exact jW_mem mc184 rfl
  | 185, _ => exact jW_mem mc185 rfl
  | 186, _ => exact jW_mem mc186 rfl
  | 187, _ => exact jW_mem mc187 rfl
  | 188, _ => exact jW_mem mc188 rfl
  | 189, _ => exact jW_mem mc189 rfl
  | 190, _ => exact jW_mem mc190 rfl
  | 191, _ => exact jW_mem mc191 rfl
  | 192, _ => exact jW_mem mc192 rfl
  | 193, _ => exact jW_mem mc193 rfl
  | 194, _ => exact jW_mem mc194 rfl
  | 195, _ => exact jW_mem mc195 rfl
  | 196, _ => exact jW_mem mc196 rfl
  | 197, _ => exact jW_mem mc197 rfl
  | 198, _ => exact jW_mem mc198 rfl
  | 199, _ => exact jW_mem mc199 rfl
  | 200, _ => exact jW_mem mc200 rfl
  | 201, _ => exact jW_mem mc201 rfl
  | 202, _ => exact jW_mem mc202 rfl
  | 203, _ => exact jW_mem mc203 rfl
  | 204, _ => exact jW_mem mc204 rfl
  | 205, _ => exact jW_mem mc205 rfl
  | 206, _ => exact jW_mem mc206 rfl
  | 207, _ => exact jW_mem mc207 rfl
  | 208, _ => exact jW_mem mc208 rfl
  | 209, _ => exact jW_mem mc209 rfl
  | 210, _ => exact jW_mem mc210 rfl
  | 211, _ => exact jW_mem mc211 rfl
  | 212, _ => exact jW_mem mc212 rfl
  | 213, _ => exact jW_mem mc213 rfl
  | 214, _ => exact jW_mem mc214 rfl
  | 215, _ => exact jW_mem mc215 rfl
  | 216, _ => exact jW_mem mc216 rfl
  | 217, _ => exact jW_mem mc217 rfl
  | 218, _ => exact jW_mem mc218 rfl
  | 219, _ => exact jW_mem mc219 rfl
  | 220, _ => exact jW_mem mc220 rfl
  | 221, _ => exact jW_mem mc221 rfl
  | 222, _ => exact jW_mem mc222 rfl
  | 223, _ => exact jW_mem mc223 rfl
  | 224, _ => exact jW_mem mc224 rfl
  | 225, _ => exact jW_mem mc225 rfl
  | 226, _ => exact jW_mem mc226 rfl
  | 227, _ => exact jW_mem mc227 rfl
  | 228, _ => exact jW_mem mc228 rfl
  | 229, _ => exact jW_mem mc229 rfl
  | m + 230, h => exact absurd h (by omega)
end
section
/-! THE SMALL MACHINE: numbers are Int, cells have numbers; what the real one answers where this one does stands in the next parts. -/
/-- a value: a number, a long, a cell or null -/
abbrev jV : Type := Int ⊕ Int ⊕ Option Nat
abbrev vi (z : Int) : jV := .inl z
abbrev vl (z : Int) : jV := .inr (.inl z)
abbrev vr (k : Nat) : jV := .inr (.inr (some k))
/-- a store: may cells be made, how many there are, how many slots, what each is (class or 50 int[], 51 boolean[], 52 .. arrays of cells; its length), its numbers, its cells -/
abbrev jS : Type := Bool × Nat × Nat × (Nat → Nat × Nat) × (Nat → Int → Int) × (Nat → Int → Option Nat)
abbrev jL : Type := List (Option jV)
def inR (z : Int) : Prop := -2147483648 ≤ z ∧ z < 2147483648
def inB (z : Int) : Bool := decide (-2147483648 ≤ z) && decide (z < 2147483648)
def up {α : Type} (f : Nat → Int → α) (k : Nat) (j : Int) (v : α) : Nat → Int → α := fun a b => if a = k ∧ b = j then v else f a b
def wr (z : Int) : Int := z.bmod 4294967296
def lget (L : jL) (i : Nat) : Option jV := (L[i]?).join
def isL (v : jV) : Bool := match v with
  | .inr (.inl _) => true
  | _ => false
def noL (L : jL) (i : Nat) : Bool := match i with
  | 0 => true
  | j + 1 => match lget L j with
    | some v => !isL v
    | none => true
def lput (L : jL) (i : Nat) (v : jV) : Option jL := if decide (i < L.length) && noL L i then some (L.set i (some v)) else none
def lput2 (L : jL) (i : Nat) (v : jV) : Option jL := if decide (i + 1 < L.length) && noL L i then some ((L.set i (some v)).set (i + 1) none) else none
def szS (S : List jV) : Nat := (S.map fun v => if isL v then 2 else 1).sum
def popN : Nat → List jV → Option (List jV × List jV)
  | 0, S => some ([], S)
  | n + 1, v :: S => (popN n S).map (fun q => (q.1 ++ [v], q.2))
  | _ + 1, [] => none
def iniL (n : Nat) (a : List jV) : jL := let l := a.flatMap (fun v => if isL v then [some v, none] else [some v]); l ++ List.replicate (n - l.length) none
-- the links
def tF (o i : Nat) : Option (Nat × Nat × Nat × Nat) := (tFl.find? (fun e => e.1 == o && e.2.1 == i)).map (fun e => e.2.2.2)
def tK (o i : Nat) : Option Int := (tKl.find? (fun e => e.1 == o && e.2.1 == i)).map (fun e => e.2.2.2)
def tKK (o i : Nat) : Option Int := (tKKl.find? (fun e => e.1 == o && e.2.1 == i)).map (fun e => e.2.2.2)
def tN (o i : Nat) : Option Nat := (tNl.find? (fun e => e.1 == o && e.2.1 == i)).map (fun e => e.2.2.2.1)
def tA (o i : Nat) : Option Nat := (tAl.find? (fun e => e.1 == o && e.2.1 == i)).map (fun e => e.2.2.2.1)
def tO (o i : Nat) : Option Nat := (tOl.find? (fun e => e.1 == o && e.2.1 == i)).map (fun e => e.2.2.2)
def tM (o i : Nat) : Option Nat := (tMl.find? (fun e => e.1 == o && e.2.1 == i)).map (fun e => e.2.2.1)
def tS (o i : Nat) : Option Nat := (tSl.find? (fun e => e.1 == o && e.2.1 == i)).map (fun e => e.2.2.1)
def tI (o i : Nat) : Option Nat := (tIl.find? (fun e => e.1 == o && e.2.1 == i)).map (fun e => e.2.2.1)
def tJ (o i : Nat) : Option Nat := (tJl.find? (fun e => e.1 == o && e.2.1 == i)).map (fun e => e.2.2.1)
def tB (o i : Nat) : Bool := tBl.any (fun e => e.1 == o && e.2.1 == i)
def tP (o i : Nat) : Option Nat := (tPl.find? (fun e => e.1 == o && e.2.1 == i)).map (fun e => e.2.2.1)
/-- how many arguments a virtual call takes beside its receiver -/
def tVn (o i : Nat) : Option Nat := (tVl.find? (fun e => e.1 == o && e.2.1 == i)).map (fun e => e.2.2.1)
def tV (o i c : Nat) : Option Nat := (tVl.find? (fun e => e.1 == o && e.2.1 == i && e.2.2.2.1 == c)).map (fun e => e.2.2.2.2.1)
/-- instanceof, by the object's class (a number of jcl) and the class that is asked for (a number of oN) -/
def tIn (c o : Nat) : Option Bool :=
  match c, o with
  | 5, 6 => some true | 5, 8 => some false | 5, 0 => some false | 5, 10 => some false | 5, 2 => some false
  | 7, 6 => some true | 7, 8 => some true | 7, 0 => some false | 7, 10 => some false | 7, 2 => some false
  | 0, 6 => some true | 0, 8 => some false | 0, 0 => some true | 0, 10 => some false | 0, 2 => some false
  | 9, 6 => some false | 9, 8 => some false | 9, 0 => some false | 9, 10 => some true | 9, 2 => some false
  | 2, 6 => some false | 2, 8 => some false | 2, 0 => some false | 2, 10 => some true | 2, 2 => some true
  | _, _ => none
/-- whether a cell of a class may stand in an array of cells of a tag -/
def tIt (c t : Nat) : Bool := match t with
  | 52 => c == 4
  | 53 => c == 5 || c == 7 || c == 0 || c == 9 || c == 2
  | 54 => c == 1
  | _ => false
-- STEPS that go on to the next instruction and touch no cell
def s1 (o : Nat) (i : Instr) (L : jL) (S : List jV) : Option (jL × List jV) :=
  match i with
  | .iload n => match lget L n with
    | some (.inl z) => some (L, .inl z :: S)
    | _ => none
  | .iload_n n => match lget L n with
    | some (.inl z) => some (L, .inl z :: S)
    | _ => none
  | .lload n => match lget L n with
    | some (.inr (.inl z)) => some (L, .inr (.inl z) :: S)
    | _ => none
  | .lload_n n => match lget L n with
    | some (.inr (.inl z)) => some (L, .inr (.inl z) :: S)
    | _ => none
  | .aload n => match lget L n with
    | some (.inr (.inr (some k))) => some (L, .inr (.inr (some k)) :: S)
    | _ => none
  | .aload_n n => match lget L n with
    | some (.inr (.inr (some k))) => some (L, .inr (.inr (some k)) :: S)
    | _ => none
  | .istore n => match S with
    | .inl z :: S => (lput L n (.inl z)).map (fun L => (L, S))
    | _ => none
  | .istore_n n => match S with
    | .inl z :: S => (lput L n (.inl z)).map (fun L => (L, S))
    | _ => none
  | .astore n => match S with
    | .inr (.inr (some k)) :: S => (lput L n (.inr (.inr (some k)))).map (fun L => (L, S))
    | _ => none
  | .astore_n n => match S with
    | .inr (.inr (some k)) :: S => (lput L n (.inr (.inr (some k)))).map (fun L => (L, S))
    | _ => none
  | .lstore n => match S with
    | .inr (.inl z) :: S => (lput2 L n (.inr (.inl z))).map (fun L => (L, S))
    | _ => none
  | .lstore_n n => match S with
    | .inr (.inl z) :: S => (lput2 L n (.inr (.inl z))).map (fun L => (L, S))
    | _ => none
  | .iinc n d => match lget L n with
    | some (.inl z) => (lput L n (.inl (z + d))).map (fun L => (L, S))
    | _ => none
  | .iconst z => some (L, .inl z :: S)
  | .bipush z => if decide (-128 ≤ z) && decide (z ≤ 127) then some (L, .inl z :: S) else none
  | .sipush z => if decide (-32768 ≤ z) && decide (z ≤ 32767) then some (L, .inl z :: S) else none
  | .ldc n => (tK o n).map (fun z => (L, .inl z :: S))
  | .ldc_w n => (tK o n).map (fun z => (L, .inl z :: S))
  | .ldc2_w n => (tKK o n).map (fun z => (L, .inr (.inl z) :: S))
  | .dup => match S with
    | v :: S => if isL v then none else some (L, v :: v :: S)
    | _ => none
  | .dup2 => match S with
    | v :: w :: S => if isL v || isL w then none else some (L, v :: w :: v :: w :: S)
    | _ => none
  | .pop => match S with
    | v :: S => if isL v then none else some (L, S)
    | _ => none
  | .iadd => match S with
    | .inl y :: .inl x :: S => some (L, .inl (x + y) :: S)
    | _ => none
  | .isub => match S with
    | .inl y :: .inl x :: S => some (L, .inl (x - y) :: S)
    | _ => none
  | .imul => match S with
    | .inl y :: .inl x :: S => some (L, .inl (x * y) :: S)
    | _ => none
  | .ineg => match S with
    | .inl x :: S => some (L, .inl (-x) :: S)
    | _ => none
  | .idiv => match S with
    | .inl y :: .inl x :: S => if decide (0 ≤ x) && decide (x < 2147483648) && decide (0 < y) && decide (y < 2147483648) then some (L, .inl (x / y) :: S) else none
    | _ => none
  | .irem => match S with
    | .inl y :: .inl x :: S => if decide (0 ≤ x) && decide (x < 2147483648) && decide (0 < y) && decide (y < 2147483648) then some (L, .inl (x % y) :: S) else none
    | _ => none
  | .ishl => match S with
    | .inl y :: .inl x :: S => if decide (0 ≤ y) && decide (y < 32) then some (L, .inl (x * 2 ^ y.toNat) :: S) else none
    | _ => none
  | .ishr => match S with
    | .inl y :: .inl x :: S => if decide (0 ≤ y) && decide (y < 32) then some (L, .inl (wr x / 2 ^ y.toNat) :: S) else none
    | _ => none
  | .iand => match S with
    | .inl y :: .inl x :: S => if y = 63 then some (L, .inl (x % 64) :: S) else if y = 1 then some (L, .inl (x % 2) :: S) else none
    | _ => none
  | .ior => match S with
    | .inl y :: .inl x :: S => if decide (0 ≤ x) && decide (x < 2147483648) && decide (0 ≤ y) && decide (y < 2147483648) then some (L, .inl ((x.toNat ||| y.toNat : Nat) : Int) :: S) else none
    | _ => none
  | .i2l => match S with
    | .inl x :: S => if inB x then some (L, .inr (.inl x) :: S) else none
    | _ => none
  | .l2i => match S with
    | .inr (.inl x) :: S => some (L, .inl x :: S)
    | _ => none
  | .i2b => match S with
    | .inl x :: S => some (L, .inl (x.bmod 256) :: S)
    | _ => none
  | .i2s => match S with
    | .inl x :: S => some (L, .inl (x.bmod 65536) :: S)
    | _ => none
  | .lmul => match S with
    | .inr (.inl y) :: .inr (.inl x) :: S => some (L, .inr (.inl (x * y)) :: S)
    | _ => none
  | .lrem => match S with
    | .inr (.inl y) :: .inr (.inl x) :: S => if decide (0 ≤ x) && decide (x < 9223372036854775808) && decide (0 < y) && decide (y < 9223372036854775808) then some (L, .inr (.inl (x % y)) :: S) else none
    | _ => none
  | _ => none
/-- numbers of 0 to 31: how many bits are set -/
def bitC (x : Int) : Int := x % 2 + x / 2 % 2 + x / 4 % 2 + x / 8 % 2 + x / 16 % 2
/-- a range of numbers copied -/
def cpI (f : Nat → Int → Int) (k0 k1 : Nat) (sp dp n : Int) : Nat → Int → Int := fun a b => if a = k1 ∧ dp ≤ b ∧ b < dp + n then f k0 (sp + (b - dp)) else f a b
/-- the number among oN of a class of jcl -/
def cO (c : Nat) : Nat := if c < 4 then c else c + 1
-- STEPS that go on to the next instruction and look at the store ('init': the method is a constructor)
def s2 (o : Nat) (init : Bool) (i : Instr) (S : List jV) (σ : jS) : Option (List jV × jS) :=
  match i with
  | .getfield n => match S, tF o n with
    | .inr (.inr (some k)) :: S, some (c, j, rf, _) =>
      if decide (k < σ.2.1) && decide (σ.2.2.2.1 k = (c, 0)) then
        if rf == 1 then some (.inr (.inr (σ.2.2.2.2.2 k j)) :: S, σ) else some (.inl (σ.2.2.2.2.1 k j) :: S, σ)
      else none
    | _, _ => none
  | .putfield n => match S, tF o n with
    | .inl z :: .inr (.inr (some k)) :: S, some (c, j, rf, fin) =>
      if decide (k < σ.2.1) && decide (σ.2.2.2.1 k = (c, 0)) && (rf == 0) && (fin == 0) then some (S, σ.1, σ.2.1, σ.2.2.1, σ.2.2.2.1, up σ.2.2.2.2.1 k j z, σ.2.2.2.2.2) else none
    | .inr (.inr (some q)) :: .inr (.inr (some k)) :: S, some (c, j, rf, fin) =>
      if decide (k < σ.2.1) && decide (σ.2.2.2.1 k = (c, 0)) && (rf == 1) && (fin == 0 || (init && cO c == o)) then some (S, σ.1, σ.2.1, σ.2.2.1, σ.2.2.2.1, σ.2.2.2.2.1, up σ.2.2.2.2.2 k j (some q)) else none
    | _, _ => none
  | .iaload => match S with
    | .inl x :: .inr (.inr (some k)) :: S => if decide (k < σ.2.1) && ((σ.2.2.2.1 k).1 == 50) && decide (0 ≤ x) && decide (x < (σ.2.2.2.1 k).2) then some (.inl (σ.2.2.2.2.1 k x) :: S, σ) else none
    | _ => none
  | .iastore => match S with
    | .inl z :: .inl x :: .inr (.inr (some k)) :: S => if decide (k < σ.2.1) && ((σ.2.2.2.1 k).1 == 50) && decide (0 ≤ x) && decide (x < (σ.2.2.2.1 k).2) then some (S, σ.1, σ.2.1, σ.2.2.1, σ.2.2.2.1, up σ.2.2.2.2.1 k x z, σ.2.2.2.2.2) else none
    | _ => none
  | .baload => match S with
    | .inl x :: .inr (.inr (some k)) :: S => if decide (k < σ.2.1) && ((σ.2.2.2.1 k).1 == 51) && decide (0 ≤ x) && decide (x < (σ.2.2.2.1 k).2) then some (.inl (σ.2.2.2.2.1 k x) :: S, σ) else none
    | _ => none
  | .bastore => match S with
    | .inl z :: .inl x :: .inr (.inr (some k)) :: S => if decide (k < σ.2.1) && ((σ.2.2.2.1 k).1 == 51) && decide (0 ≤ x) && decide (x < (σ.2.2.2.1 k).2) && (decide (z = 0) || decide (z = 1)) then some (S, σ.1, σ.2.1, σ.2.2.1, σ.2.2.2.1, up σ.2.2.2.2.1 k x z, σ.2.2.2.2.2) else none
    | _ => none
  | .aaload => match S with
    | .inl x :: .inr (.inr (some k)) :: S => if decide (k < σ.2.1) && decide (52 ≤ (σ.2.2.2.1 k).1) && decide ((σ.2.2.2.1 k).1 ≤ 54) && decide (0 ≤ x) && decide (x < (σ.2.2.2.1 k).2) then some (.inr (.inr (σ.2.2.2.2.2 k x)) :: S, σ) else none
    | _ => none
  | .aastore => match S with
    | .inr (.inr (some q)) :: .inl x :: .inr (.inr (some k)) :: S => if decide (k < σ.2.1) && decide (q < σ.2.1) && decide ((σ.2.2.2.1 q).1 < 12) && decide (52 ≤ (σ.2.2.2.1 k).1) && decide ((σ.2.2.2.1 k).1 ≤ 54) && tIt (σ.2.2.2.1 q).1 (σ.2.2.2.1 k).1 && decide (0 ≤ x) && decide (x < (σ.2.2.2.1 k).2) then some (S, σ.1, σ.2.1, σ.2.2.1, σ.2.2.2.1, σ.2.2.2.2.1, up σ.2.2.2.2.2 k x (some q)) else none
    | _ => none
  | .arraylength => match S with
    | .inr (.inr (some k)) :: S => if decide (k < σ.2.1) && decide (50 ≤ (σ.2.2.2.1 k).1) && decide ((σ.2.2.2.1 k).1 ≤ 54) then some (.inl ((σ.2.2.2.1 k).2 : Nat) :: S, σ) else none
    | _ => none
  | .instanceof n => match S, tO o n with
    | .inr (.inr (some k)) :: S, some w => if decide (k < σ.2.1) && decide ((σ.2.2.2.1 k).1 < 12) then (tIn (σ.2.2.2.1 k).1 w).map (fun b => (.inl (if b then 1 else 0) :: S, σ)) else none
    | _, _ => none
  | .new n => (tN o n).bind (fun c => if σ.1 && decide (0 < σ.2.1) then some (.inr (.inr (some σ.2.1)) :: S, true, σ.2.1 + 1, σ.2.2.1 + cF c, (fun a => if a = σ.2.1 then (c, 0) else σ.2.2.2.1 a), (fun a b => if a = σ.2.1 then 0 else σ.2.2.2.2.1 a b), (fun a b => if a = σ.2.1 then none else σ.2.2.2.2.2 a b)) else none)
  | .newarray t => match S with
    | .inl x :: S => if σ.1 && decide (0 < σ.2.1) && decide (0 ≤ x) && decide (x < 100000) && (t == .int || t == .boolean) then some (.inr (.inr (some σ.2.1)) :: S, true, σ.2.1 + 1, σ.2.2.1 + x.toNat, (fun a => if a = σ.2.1 then (if t == .int then 50 else 51, x.toNat) else σ.2.2.2.1 a), (fun a b => if a = σ.2.1 then 0 else σ.2.2.2.2.1 a b), (fun a b => if a = σ.2.1 then none else σ.2.2.2.2.2 a b)) else none
    | _ => none
  | .anewarray n => match S, tA o n with
    | .inl x :: S, some t => if σ.1 && decide (0 < σ.2.1) && decide (0 ≤ x) && decide (x < 100000) then some (.inr (.inr (some σ.2.1)) :: S, true, σ.2.1 + 1, σ.2.2.1 + x.toNat, (fun a => if a = σ.2.1 then (t, x.toNat) else σ.2.2.2.1 a), (fun a b => if a = σ.2.1 then 0 else σ.2.2.2.2.1 a b), (fun a b => if a = σ.2.1 then none else σ.2.2.2.2.2 a b)) else none
    | _, _ => none
  | .invokespecial n => match S with
    | .inr (.inr (some _)) :: S => if tB o n && decide (szS S ≤ 8) then some (S, σ) else none
    | _ => none
  | .invokestatic n => match tM o n with
    | some 0 => match S with
      | .inl n :: .inl dp :: .inr (.inr (some k1)) :: .inl sp :: .inr (.inr (some k0)) :: S =>
        if decide (k0 < σ.2.1) && decide (k1 < σ.2.1) && ((σ.2.2.2.1 k0).1 == 50) && ((σ.2.2.2.1 k1).1 == 50) && decide (0 ≤ sp) && decide (0 ≤ dp) && decide (0 ≤ n) && decide (sp + n ≤ (σ.2.2.2.1 k0).2) && decide (dp + n ≤ (σ.2.2.2.1 k1).2) && decide (szS S ≤ 8) then
          some (S, σ.1, σ.2.1, σ.2.2.1, σ.2.2.2.1, cpI σ.2.2.2.2.1 k0 k1 sp dp n, σ.2.2.2.2.2) else none
      | _ => none
    | some 2 => match S with
      | .inl x :: S => if decide (-2147483648 < x) && decide (x < 2147483648) && decide (szS S ≤ 8) then some (.inl (if 0 ≤ x then x else -x) :: S, σ) else none
      | _ => none
    | some 3 => match S with
      | .inl y :: .inl x :: S => if inB x && inB y && decide (szS S ≤ 8) then some (.inl (if x < y then y else x) :: S, σ) else none
      | _ => none
    | some 4 => match S with
      | .inl y :: .inl x :: S => if inB x && inB y && decide (szS S ≤ 8) then some (.inl (if x < y then x else y) :: S, σ) else none
      | _ => none
    | some 1 => match S with
      | .inl x :: S => if decide (0 ≤ x) && decide (x < 32) && decide (szS S ≤ 8) then some (.inl (bitC x) :: S, σ) else none
      | _ => none
    | _ => none
  | _ => none
def cmpB (c : Jvm.ClassFile.Cond) (x y : Int) : Bool := match c with
  | .eq => decide (x = y)
  | .ne => decide (x ≠ y)
  | .lt => decide (x < y)
  | .ge => decide (y ≤ x)
  | .gt => decide (y < x)
  | .le => decide (x ≤ y)
def toPc (pc : Nat) (off : Int) : Option Nat := if decide (0 ≤ (pc : Int) + off) then some ((pc : Int) + off).toNat else none
-- JUMPS: the next place and the stack
def s3 (i : Instr) (pc len : Nat) (S : List jV) : Option (Nat × List jV) :=
  match i with
  | .goto off => (toPc pc off).map (fun t => (t, S))
  | .ifCond c off => match S with
    | .inl x :: S => if inB x then (toPc pc off).map (fun t => (if cmpB c x 0 then t else pc + len, S)) else none
    | _ => none
  | .if_icmp c off => match S with
    | .inl y :: .inl x :: S => if inB x && inB y then (toPc pc off).map (fun t => (if cmpB c x y then t else pc + len, S)) else none
    | _ => none
  | .tableswitch d lo hi offs => match S with
    | .inl x :: S => if inB x then if x < lo ∨ hi < x then (toPc pc d).map (fun t => (t, S)) else (offs[(x - lo).toNat]?).bind (fun off => (toPc pc off).map (fun t => (t, S))) else none
    | _ => none
  | .lookupswitch d ps => match S with
    | .inl x :: S => if inB x && (ps.toList.zip (ps.toList.drop 1)).all (fun (a, next) => a.1 < next.1) then (toPc pc (Op.lookupswitch.offset ps.toList d x)).map (fun t => (t, S)) else none
    | _ => none
  | _ => none
-- ENDS
def s4 (rt : Option FieldType) (i : Instr) (S : List jV) : Option (Option jV) :=
  match i with
  | .ireturn => match S, rt with
    | [.inl x], some .int => some (some (.inl x))
    | [.inl x], some .boolean => if decide (x = 0) || decide (x = 1) then some (some (.inl x)) else none
    | _, _ => none
  | .areturn => match S, rt with
    | [.inr (.inr (some k))], some (.object _) => some (some (.inr (.inr (some k))))
    | _, _ => none
  | .return_ => match S, rt with
    | [], none => some none
    | _, _ => none
  | _ => none
-- CALLS: the method, its arguments, what stays on the stack
def s5 (o : Nat) (i : Instr) (S : List jV) (σ : jS) : Option (Nat × List jV × List jV) :=
  match i with
  | .invokestatic n => (tS o n).bind (fun m => (popN (mP m) S).bind (fun q => if szS q.2 ≤ 8 then some (m, q.1, q.2) else none))
  | .invokespecial n => match (tI o n).orElse (fun _ => (tJ o n).orElse (fun _ => tP o n)) with
    | some m => (popN (mP m) S).bind (fun q => match q.2 with
      | .inr (.inr (some k)) :: r => if decide (szS r ≤ 8) && decide (k < σ.2.1) && decide ((σ.2.2.2.1 k).1 < 12) then some (m, .inr (.inr (some k)) :: q.1, r) else none
      | _ => none)
    | none => none
  | .invokevirtual n => (tVn o n).bind (fun np => (popN np S).bind (fun q => match q.2 with
      | .inr (.inr (some k)) :: r => if decide (szS r ≤ 8) && decide (k < σ.2.1) && decide ((σ.2.2.2.1 k).2 = 0) then (tV o n (σ.2.2.2.1 k).1).map (fun m => (m, .inr (.inr (some k)) :: q.1, r)) else none
      | _ => none))
  | _ => none
/-- the length of an instruction, where it is the same everywhere -/
def ilen (i : Instr) : Nat := match i with
  | .iload _ | .lload _ | .aload _ | .istore _ | .astore _ | .lstore _ | .bipush _ | .ldc _ | .newarray _ => 2
  | .iinc _ _ | .sipush _ | .ldc_w _ | .ldc2_w _ | .getfield _ | .putfield _ | .instanceof _ | .new _ | .anewarray _ | .invokespecial _ | .invokestatic _ | .invokevirtual _ | .goto _ | .ifCond _ _ | .if_icmp _ _ => 3
  | _ => 1
def lenOk (i : Instr) (len : Nat) : Bool := match i with
  | .tableswitch _ _ _ _ => true
  | .lookupswitch _ _ => true
  | _ => len == ilen i
def isInit (m : Nat) : Bool := (mY m).name == "<init>"
/-- the run of a method from a place on: fuel, how deep calls may go -/
def run : Nat → Nat → Nat → Nat → jL → List jV → jS → Option (Option jV × jS)
  | 0, _, _, _, _, _, _ => none
  | f + 1, d, m, pc, L, S, σ =>
    match decode (mB m) pc with
    | .ok (i, len) => if lenOk i len then
      match s1 (mO m) i L S with
      | some (L, S) => run f d m (pc + len) L S σ
      | none => match s2 (mO m) (isInit m) i S σ with
        | some (S, σ) => run f d m (pc + len) L S σ
        | none => match s3 i pc len S with
          | some (pc, S) => run f d m pc L S σ
          | none => match s4 (mR m) i S with
            | some r => some (r, σ)
            | none => match s5 (mO m) i S σ with
              | some (m', a, S) => match d with
                | 0 => none
                | d + 1 => match (if szS a ≤ mL m' then run f d m' 0 (iniL (mL m') a) [] σ else none) with
                  | some (r, σ) => run f (d + 1) m (pc + 3) L (r.toList ++ S) σ
                  | none => none
              | none => none
      else none
    | _ => none
theorem run_more : ∀ (f d m pc : Nat) (L : jL) (S : List jV) (σ : jS) (r : Option jV × jS), run f d m pc L S σ = some r → run (f + 1) d m pc L S σ = some r := by
  intro f
  induction f with
  | zero => intro d m pc L S σ r h; simp [run] at h
  | succ f ih =>
    intro d m pc L S σ r h
    unfold run at h ⊢
    split at h <;> try simp at h
    rename_i i len hd
    obtain ⟨hlen, h⟩ := h
    rw [if_pos hlen]
    cases h1 : s1 (mO m) i L S with
    | some q => rw [h1] at h; exact ih _ _ _ _ _ _ _ h
    | none =>
      rw [h1] at h
      dsimp only at h ⊢
      cases h2 : s2 (mO m) (isInit m) i S σ with
      | some q => rw [h2] at h; exact ih _ _ _ _ _ _ _ h
      | none =>
        rw [h2] at h
        dsimp only at h ⊢
        cases h3 : s3 i pc len S with
        | some q => rw [h3] at h; exact ih _ _ _ _ _ _ _ h
        | none =>
          rw [h3] at h
          dsimp only at h ⊢
          cases h4 : s4 (mR m) i S with
          | some q => rw [h4] at h; exact h
          | none =>
            rw [h4] at h
            dsimp only at h ⊢
            cases h5 : s5 (mO m) i S σ with
            | none => rw [h5] at h; cases h
            | some q =>
              obtain ⟨m', a, S'⟩ := q
              rw [h5] at h
              dsimp only at h ⊢
              cases d with
              | zero => cases h
              | succ d =>
                dsimp only at h ⊢
                by_cases hz : szS a ≤ mL m'
                · rw [if_pos hz] at h ⊢
                  cases h6 : run f d m' 0 (iniL (mL m') a) [] σ with
                  | none => rw [h6] at h; cases h
                  | some q =>
                    rw [h6] at h
                    rw [ih _ _ _ _ _ _ _ h6]
                    exact ih _ _ _ _ _ _ _ h
                · rw [if_neg hz] at h; cases h
theorem run_le {f g d m pc : Nat} {L : jL} {S : List jV} {σ : jS} {r : Option jV × jS} (h : f ≤ g) (hr : run f d m pc L S σ = some r) : run g d m pc L S σ = some r := by
  induction h with
  | refl => exact hr
  | step _ ih => exact run_more _ _ _ _ _ _ _ _ ih
end
section
/-! numbers: an Int as the real machine holds it -/
theorem inB_iff {z : Int} : inB z = true ↔ -2147483648 ≤ z ∧ z < 2147483648 := by simp [inB]
theorem oI_t {z : Int} (h : inB z = true) : (Int32.ofInt z).toInt = z := by
  have h := inB_iff.mp h
  exact Int32.toInt_ofInt_of_le (by omega) (by omega)
theorem oI_nat {z : Int} (h : 0 ≤ z) : Int32.ofInt z = nI z.toNat := by
  obtain ⟨n, rfl⟩ := Int.eq_ofNat_of_zero_le h
  exact Int32.ofInt_eq_ofNat
theorem oL_nat {z : Int} (h : 0 ≤ z) : Int64.ofInt z = lN z.toNat := by
  obtain ⟨n, rfl⟩ := Int.eq_ofNat_of_zero_le h
  exact Int64.ofInt_eq_ofNat
theorem oI_lt {x y : Int} (hx : inB x = true) (hy : inB y = true) : Int32.ofInt x < Int32.ofInt y ↔ x < y := by rw [Int32.lt_iff_toInt_lt, oI_t hx, oI_t hy]
theorem oI_le {x y : Int} (hx : inB x = true) (hy : inB y = true) : Int32.ofInt x ≤ Int32.ofInt y ↔ x ≤ y := by rw [Int32.le_iff_toInt_le, oI_t hx, oI_t hy]
theorem oI_eq {x y : Int} (hx : inB x = true) (hy : inB y = true) : Int32.ofInt x = Int32.ofInt y ↔ x = y := by rw [← Int32.toInt_inj, oI_t hx, oI_t hy]
theorem oI_in {x : Int} {n : Nat} (h0 : 0 ≤ x) (h1 : x < n) (hn : n < 100001) : vp_in (Int32.ofInt x) n ∧ (Int32.ofInt x).toNatClampNeg = x.toNat := by
  rw [oI_nat h0]
  exact ⟨vp_in_nI (by omega) (by omega), nI_clamp (by omega)⟩
theorem oI_div {x y : Int} (h0 : 0 ≤ x) (h1 : x < 2147483648) (h2 : 0 < y) (h3 : y < 2147483648) : Int32.ofInt x / Int32.ofInt y = Int32.ofInt (x / y) := by
  rw [oI_nat h0, oI_nat (Int.le_of_lt h2), pk_div (by omega) (by omega) (by omega), oI_nat (Int.ediv_nonneg h0 (Int.le_of_lt h2))]
  congr 1
  obtain ⟨a, rfl⟩ := Int.eq_ofNat_of_zero_le h0
  obtain ⟨b, rfl⟩ := Int.eq_ofNat_of_zero_le (Int.le_of_lt h2)
  rfl
theorem oI_rem {x y : Int} (h0 : 0 ≤ x) (h1 : x < 2147483648) (h2 : 0 < y) (h3 : y < 2147483648) : Int32.ofInt x - Int32.ofInt x / Int32.ofInt y * Int32.ofInt y = Int32.ofInt (x % y) := by
  rw [oI_nat h0, oI_nat (Int.le_of_lt h2), pk_rem (by omega) (by omega) (by omega), oI_nat (Int.emod_nonneg x (by omega))]
  congr 1
  obtain ⟨a, rfl⟩ := Int.eq_ofNat_of_zero_le h0
  obtain ⟨b, rfl⟩ := Int.eq_ofNat_of_zero_le (Int.le_of_lt h2)
  rfl
theorem oL_rem {x y : Int} (h0 : 0 ≤ x) (h1 : x < 9223372036854775808) (h2 : 0 < y) (h3 : y < 9223372036854775808) : Int64.ofInt x - Int64.ofInt x / Int64.ofInt y * Int64.ofInt y = Int64.ofInt (x % y) := by
  rw [oL_nat h0, oL_nat (Int.le_of_lt h2), pk_lRem (by omega) (by omega) (by omega), oL_nat (Int.emod_nonneg x (by omega))]
  congr 1
  obtain ⟨a, rfl⟩ := Int.eq_ofNat_of_zero_le h0
  obtain ⟨b, rfl⟩ := Int.eq_ofNat_of_zero_le (Int.le_of_lt h2)
  rfl
theorem oI_ne0 {y : Int} (h2 : 0 < y) (h3 : y < 2147483648) : ¬ Int32.ofInt y = 0 := by
  intro h
  have h : Int32.ofInt y = Int32.ofInt 0 := h
  rw [oI_eq (inB_iff.mpr (by omega)) (by decide)] at h
  omega
theorem oL_ne0 {y : Int} (h2 : 0 < y) (h3 : y < 9223372036854775808) : ¬ Int64.ofInt y = 0 := by
  intro h
  have h : Int64.ofInt y = Int64.ofInt 0 := h
  rw [← Int64.toInt_inj, Int64.toInt_ofInt_of_le (by omega) (by omega)] at h
  have h4 : (Int64.ofInt 0).toInt = 0 := by decide
  omega
theorem oI_bv (z : Int) : (Int32.ofInt z).toBitVec.toNat = (z % 4294967296).toNat := by
  rw [Int32.toBitVec_ofInt, BitVec.toNat_ofInt]
  rfl
theorem sh_c : ∀ n, n < 32 → ((nI n &&& 31).toBitVec.smod 32).toNat = n := by decide +kernel
theorem oI_shl {x y : Int} (h0 : 0 ≤ y) (h1 : y < 32) : Int32.ofInt x <<< (Int32.ofInt y &&& 31) = Int32.ofInt (x * 2 ^ y.toNat) := by
  apply Int32.toBitVec.inj
  apply BitVec.eq_of_toNat_eq
  rw [oI_nat h0, pk_shl _ _ y.toNat (sh_c _ (by omega)), oI_bv, oI_bv]
  generalize y.toNat = k
  have h2 : (0 : Int) ≤ x % 4294967296 := Int.emod_nonneg x (by omega)
  obtain ⟨a, ha⟩ := Int.eq_ofNat_of_zero_le h2
  have h3 : x * 2 ^ k % 4294967296 = ((a * 2 ^ k % 4294967296 : Nat) : Int) := by
    rw [Int.natCast_emod, Int.natCast_mul, Int.natCast_pow, ← ha]
    show _ = x % 4294967296 * 2 ^ k % 4294967296
    have e1 := Int.mul_emod x (2 ^ k) 4294967296
    have e2 := Int.mul_emod (x % 4294967296) (2 ^ k) 4294967296
    rw [Int.emod_emod] at e2
    exact e1.trans e2.symm
  rw [h3, ha]
  rfl
theorem wr_rng (x : Int) : -2147483648 ≤ wr x ∧ wr x < 2147483648 := by
  have h1 := Int.le_bmod (x := x) (m := 4294967296) (by omega)
  have h2 := Int.bmod_lt (x := x) (m := 4294967296) (by omega)
  unfold wr
  omega
theorem wr_id {x : Int} (h : -2147483648 ≤ x) (h2 : x < 2147483648) : wr x = x := by
  unfold wr
  exact Int.bmod_eq_of_le (by omega) (by omega)
theorem oI_wr (x : Int) : (Int32.ofInt x).toInt = wr x := Int32.toInt_ofInt
theorem oI_shr {x y : Int} (h0 : 0 ≤ y) (h1 : y < 32) : Int32.ofInt x >>> (Int32.ofInt y &&& 31) = Int32.ofInt (wr x / 2 ^ y.toNat) := by
  apply Int32.toInt_inj.mp
  rw [oI_nat h0, pk_shr _ _ y.toNat (sh_c _ (by omega)), oI_wr, Int.shiftRight_eq_div_pow]
  generalize y.toNat = k
  have h2 := wr_rng x
  have h3 : (0 : Int) < ((2 ^ k : Nat) : Int) := by
    have := Nat.two_pow_pos k
    omega
  have h4 : wr x / ((2 ^ k : Nat) : Int) < 2147483648 := by
    rcases Int.lt_or_le (wr x) 0 with h | h
    · have := Int.ediv_neg_of_neg_of_pos h h3
      omega
    · have := Int.ediv_le_self ((2 ^ k : Nat) : Int) h
      omega
  have h5 : -2147483648 ≤ wr x / ((2 ^ k : Nat) : Int) := by
    apply (Int.le_ediv_iff_mul_le h3).mpr
    have : (1 : Int) ≤ ((2 ^ k : Nat) : Int) := h3
    have h6 : (-2147483648 : Int) * ((2 ^ k : Nat) : Int) ≤ -2147483648 * 1 := Int.mul_le_mul_of_nonpos_left (by omega) this
    omega
  have h7 : ((2 ^ k : Nat) : Int) = (2 : Int) ^ k := by push_cast; rfl
  rw [← h7, oI_wr, wr_id h5 h4]
theorem oI_and63 (x : Int) : Int32.ofInt x &&& Int32.ofInt 63 = Int32.ofInt (x % 64) := by
  rw [pk_and _ 6 (by decide), oI_bv, oI_nat (Int.emod_nonneg x (by omega))]
  congr 1
  omega
theorem oI_and1 (x : Int) : Int32.ofInt x &&& Int32.ofInt 1 = Int32.ofInt (x % 2) := by
  rw [pk_and _ 1 (by decide), oI_bv, oI_nat (Int.emod_nonneg x (by omega))]
  congr 1
  omega
theorem nI_or (a b : Nat) : nI a ||| nI b = nI (a ||| b) := by
  apply Int32.toBitVec.inj
  apply BitVec.eq_of_toNat_eq
  show (BitVec.ofNat 32 a ||| BitVec.ofNat 32 b).toNat = (BitVec.ofNat 32 (a ||| b)).toNat
  rw [BitVec.toNat_or, BitVec.toNat_ofNat, BitVec.toNat_ofNat, BitVec.toNat_ofNat, Nat.or_mod_two_pow]
theorem oI_or {x y : Int} (h0 : 0 ≤ x) (h1 : 0 ≤ y) : Int32.ofInt x ||| Int32.ofInt y = Int32.ofInt ((x.toNat ||| y.toNat : Nat) : Int) := by
  rw [oI_nat h0, oI_nat h1, nI_or, Int32.ofInt_eq_ofNat]
  rfl
theorem oI_b (x : Int) : (Int32.ofInt x).toInt8.toInt32 = Int32.ofInt (x.bmod 256) := by
  apply Int32.toInt_inj.mp
  rw [Int8.toInt_toInt32, Int32.toInt8_ofInt, Int8.toInt_ofInt, oI_wr]
  show x.bmod 256 = _
  have h1 := Int.le_bmod (x := x) (m := 256) (by omega)
  have h2 := Int.bmod_lt (x := x) (m := 256) (by omega)
  exact (wr_id (by omega) (by omega)).symm
theorem oI_s (x : Int) : (Int32.ofInt x).toInt16.toInt32 = Int32.ofInt (x.bmod 65536) := by
  apply Int32.toInt_inj.mp
  rw [Int16.toInt_toInt32, Int32.toInt16_ofInt, Int16.toInt_ofInt, oI_wr]
  show x.bmod 65536 = _
  have h1 := Int.le_bmod (x := x) (m := 65536) (by omega)
  have h2 := Int.bmod_lt (x := x) (m := 65536) (by omega)
  exact (wr_id (by omega) (by omega)).symm
theorem oI_i2l {x : Int} (h : inB x = true) : (Int32.ofInt x).toInt64 = Int64.ofInt x := by
  apply Int64.toInt_inj.mp
  have h2 := inB_iff.mp h
  rw [Int32.toInt_toInt64, oI_t h, Int64.toInt_ofInt_of_le (by omega) (by omega)]
theorem oI_bi {z : Int} (h : -128 ≤ z) (h2 : z ≤ 127) : (Int8.ofInt z).toInt32 = Int32.ofInt z := by
  apply Int32.toInt_inj.mp
  rw [Int8.toInt_toInt32, Int8.toInt_ofInt, oI_wr, wr_id (by omega) (by omega)]
  show z.bmod 256 = _
  exact Int.bmod_eq_of_le (by omega) (by omega)
theorem oI_si {z : Int} (h : -32768 ≤ z) (h2 : z ≤ 32767) : (Int16.ofInt z).toInt32 = Int32.ofInt z := by
  apply Int32.toInt_inj.mp
  rw [Int16.toInt_toInt32, Int16.toInt_ofInt, oI_wr, wr_id (by omega) (by omega)]
  show z.bmod 65536 = _
  exact Int.bmod_eq_of_le (by omega) (by omega)
end
section
/-! THE REAL MACHINE BESIDE THE SMALL ONE: values, locals, cells (b: the address of cell 0) -/
def rv (b : Nat) (v : jV) : Value := match v with
  | .inl z => .int (Int32.ofInt z)
  | .inr (.inl z) => .long (Int64.ofInt z)
  | .inr (.inr (some k)) => .ref (b + k)
  | .inr (.inr none) => .null
theorem rv_cat (b : Nat) (v : jV) : (rv b v).category = if isL v then 2 else 1 := by
  rcases v with z | z | (_ | k) <;> rfl
def jLs (b nL : Nat) (ls : Array Slot) (L : jL) : Prop := L.length = nL ∧ ls.size = nL ∧ lv_wf ls ∧ ∀ (i : Nat) (v : jV), lget L i = some v → ls[i]? = some (.val (rv b v))
def lsl (b : Nat) (L : jL) : List (Nat × Value) := (List.range L.length).filterMap (fun i => (lget L i).map (fun v => (i, rv b v)))
theorem lget_lt {L : jL} {i : Nat} {v : jV} (h : lget L i = some v) : i < L.length := by
  unfold lget at h
  rcases Nat.lt_or_ge i L.length with q | q
  · exact q
  · rw [List.getElem?_eq_none q] at h
    cases h
theorem mem_lsl {b : Nat} {L : jL} {i : Nat} {v : jV} (h : lget L i = some v) : (i, rv b v) ∈ lsl b L := by
  refine List.mem_filterMap.mpr ⟨i, List.mem_range.mpr (lget_lt h), ?_⟩
  rw [h]
  rfl
theorem lsl_mem {b : Nat} {L : jL} {q : Nat × Value} (h : q ∈ lsl b L) : ∃ v, lget L q.1 = some v ∧ q.2 = rv b v := by
  obtain ⟨i, -, hi⟩ := List.mem_filterMap.mp h
  obtain ⟨v, hv, e⟩ := Option.map_eq_some_iff.mp hi
  subst e
  exact ⟨v, hv, rfl⟩
theorem jLs.has {b nL : Nat} {ls : Array Slot} {L : jL} (h : jLs b nL ls L) : lv_has ls nL (lsl b L) := by
  refine ⟨h.2.1, h.2.2.1, fun q hq => ?_⟩
  obtain ⟨v, h1, h2⟩ := lsl_mem hq
  rw [h2]
  exact h.2.2.2 _ _ h1
theorem lget_set {L : jL} {i j : Nat} {v : jV} {x : Option jV} (h : lget (L.set i x) j = some v) : (j = i ∧ x = some v) ∨ (j ≠ i ∧ lget L j = some v) := by
  unfold lget at h ⊢
  rw [List.getElem?_set] at h
  by_cases hj : i = j
  · subst hj
    rw [if_pos rfl] at h
    split at h
    · left
      exact ⟨rfl, h⟩
    · cases h
  · rw [if_neg hj] at h
    right
    exact ⟨fun e => hj e.symm, h⟩
theorem noL_use {L : jL} {i j : Nat} {v : jV} (hn : noL L i = true) (hj : j + 1 = i) (hv : lget L j = some v) : isL v = false := by
  subst hj
  simp only [noL, hv] at hn
  simpa using hn
theorem jLs.put {b nL i : Nat} {ls' : Array Slot} {L L' : jL} {v : jV} (hn : L.length = nL) (h : lput L i v = some L') (h2 : lv_has ls' nL ((i, rv b v) :: (lsl b L).filter (fun q => !(q.1 == i) && !(q.1 + 1 == i && q.2.category == 2)))) : jLs b nL ls' L' := by
  unfold lput at h
  split at h <;> cases h
  rename_i hc
  simp only [Bool.and_eq_true, decide_eq_true_eq] at hc
  refine ⟨by rw [List.length_set]; exact hn, h2.1, h2.2.1, fun j w hw => ?_⟩
  rcases lget_set hw with ⟨rfl, e⟩ | ⟨hj, hw⟩
  · cases e
    exact h2.2.2 (j, rv b v) List.mem_cons_self
  · refine h2.2.2 (j, rv b w) (List.mem_cons_of_mem _ (List.mem_filter.mpr ⟨mem_lsl hw, ?_⟩))
    have h3 : (j == i) = false := by simpa using hj
    by_cases h4 : j + 1 = i
    · simp [h3, h4, rv_cat, noL_use hc.2 h4 hw]
    · simp [h3, h4]
theorem jLs.put2 {b nL i : Nat} {ls' : Array Slot} {L L' : jL} {v : jV} (hn : L.length = nL) (h : lput2 L i v = some L') (h2 : lv_has ls' nL ((i, rv b v) :: (lsl b L).filter (fun q => !(q.1 == i) && (!(q.1 == i + 1) && !(q.1 + 1 == i && q.2.category == 2))))) : jLs b nL ls' L' := by
  unfold lput2 at h
  split at h <;> cases h
  rename_i hc
  simp only [Bool.and_eq_true, decide_eq_true_eq] at hc
  refine ⟨by rw [List.length_set, List.length_set]; exact hn, h2.1, h2.2.1, fun j w hw => ?_⟩
  rcases lget_set hw with ⟨-, e⟩ | ⟨hj1, hw⟩
  · cases e
  rcases lget_set hw with ⟨rfl, e⟩ | ⟨hj, hw⟩
  · cases e
    exact h2.2.2 (j, rv b v) List.mem_cons_self
  · refine h2.2.2 (j, rv b w) (List.mem_cons_of_mem _ (List.mem_filter.mpr ⟨mem_lsl hw, ?_⟩))
    have h3 : (j == i) = false := by simpa using hj
    have h5 : (j == i + 1) = false := by simpa using hj1
    by_cases h4 : j + 1 = i
    · simp [h3, h5, h4, rv_cat, noL_use hc.2 h4 hw]
    · simp [h3, h5, h4]
theorem lput_lt {L L' : jL} {i : Nat} {v : jV} (h : lput L i v = some L') : i < L.length := by
  unfold lput at h
  split at h <;> cases h
  rename_i hc
  simp only [Bool.and_eq_true, decide_eq_true_eq] at hc
  exact hc.1
theorem lput2_lt {L L' : jL} {i : Nat} {v : jV} (h : lput2 L i v = some L') : i + 1 < L.length := by
  unfold lput2 at h
  split at h <;> cases h
  rename_i hc
  simp only [Bool.and_eq_true, decide_eq_true_eq] at hc
  exact hc.1
end
section
section W1
variable {p : Program} {l : Launch} {e : Env} {R : Room} {s : State} {m : MethodId} {args : Array Value} {below : List Frame} {meth : Method} {c : Code} {H : Heap} {locs : List Loc} {cells slots : Nat} {Q : State → Prop} {cc : ByteArray} {b nL pc o : Nat} {ls : Array Slot} {L L' : jL} {S S' : List jV}
theorem find_mem {α β : Type} {l : List α} {f : α → Bool} {g : α → β} {x : β} (h : (l.find? f).map g = some x) : ∃ e ∈ l, f e = true ∧ g e = x := by
  obtain ⟨e, he, rfl⟩ := Option.map_eq_some_iff.mp h
  exact ⟨e, List.mem_of_find?_eq_some he, List.find?_some he, rfl⟩
theorem tK_use {n : Nat} {z : Int} (hts : ∀ w ∈ jW, w.before args s = true) (h : tK o n = some z) : (Cond.constant (oN o) n (Int32.ofInt z)).before args s = true := by
  obtain ⟨e, he, h1, h2⟩ := find_mem h
  have h3 := List.all_eq_true.mp tK_ok e he
  simp only [Bool.and_eq_true, beq_iff_eq, decide_eq_true_eq] at h1 h3
  obtain ⟨rfl, rfl⟩ := h1
  subst h2
  exact hts _ (jW_mem h3 rfl)
theorem tKK_use {n : Nat} {z : Int} (hts : ∀ w ∈ jW, w.before args s = true) (h : tKK o n = some z) : (Cond.constantLong (oN o) n (Int64.ofInt z)).before args s = true := by
  obtain ⟨e, he, h1, h2⟩ := find_mem h
  have h3 := List.all_eq_true.mp tKK_ok e he
  simp only [Bool.and_eq_true, beq_iff_eq, decide_eq_true_eq] at h1 h3
  obtain ⟨rfl, rfl⟩ := h1
  subst h2
  exact hts _ (jW_mem h3 rfl)
set_option maxHeartbeats 4000000 in
theorem w1 {i : Instr} (hx : p.tables.exec = Jvm.exec) (hb : c.code = cc) (hts : ∀ w ∈ jW, w.before args s = true) (hown : s.vm.findClass (oN o) = some m.cls) (hd : decode cc pc = .ok (i, ilen i)) (hl : jLs b nL ls L) (h : s1 o i L S = some (L', S'))
    (k : ∀ ls' : Array Slot, jLs b nL ls' L' → W p l e R s m args below meth c H locs cells slots Q (F0 m (pc + ilen i) ls' (S'.map (rv b)))) : W p l e R s m args below meth c H locs cells slots Q (F0 m pc ls (S.map (rv b))) := by
  cases i
  case iload n =>
    unfold s1 at h
    dsimp only at h
    split at h <;> cases h
    rename_i z hz
    exact lv_iload hx hb hd (hl.2.2.2 _ _ hz) (k ls hl)
  case iload_n n =>
    unfold s1 at h
    dsimp only at h
    split at h <;> cases h
    rename_i z hz
    exact lv_iload_n hx hb hd rfl (hl.2.2.2 _ _ hz) (k ls hl)
  case lload n =>
    unfold s1 at h
    dsimp only at h
    split at h <;> cases h
    rename_i z hz
    exact lv_lload hx hb hd (hl.2.2.2 _ _ hz) (k ls hl)
  case lload_n n =>
    unfold s1 at h
    dsimp only at h
    split at h <;> cases h
    rename_i z hz
    exact lv_lload_n hx hb hd rfl (hl.2.2.2 _ _ hz) (k ls hl)
  case aload n =>
    unfold s1 at h
    dsimp only at h
    split at h <;> cases h
    rename_i z hz
    exact lv_aload hx hb hd (hl.2.2.2 _ _ hz) (k ls hl)
  case aload_n n =>
    unfold s1 at h
    dsimp only at h
    split at h <;> cases h
    rename_i z hz
    exact lv_aload_n hx hb hd rfl (hl.2.2.2 _ _ hz) (k ls hl)
  case istore n =>
    unfold s1 at h
    dsimp only at h
    split at h
    · rename_i z S0
      obtain ⟨L1, hL, e1⟩ := Option.map_eq_some_iff.mp h
      cases e1
      exact lv_istore hx hb hd hl.has (by rw [← hl.1]; exact lput_lt hL) rfl (fun ls' h' => k ls' (jLs.put hl.1 hL h'))
    · cases h
  case istore_n n =>
    unfold s1 at h
    dsimp only at h
    split at h
    · rename_i z S0
      obtain ⟨L1, hL, e1⟩ := Option.map_eq_some_iff.mp h
      cases e1
      exact lv_istore_n hx hb hd rfl hl.has (by rw [← hl.1]; exact lput_lt hL) rfl (fun ls' h' => k ls' (jLs.put hl.1 hL h'))
    · cases h
  case astore n =>
    unfold s1 at h
    dsimp only at h
    split at h
    · rename_i z S0
      obtain ⟨L1, hL, e1⟩ := Option.map_eq_some_iff.mp h
      cases e1
      exact lv_astore hx hb hd hl.has (by rw [← hl.1]; exact lput_lt hL) rfl (fun ls' h' => k ls' (jLs.put hl.1 hL h'))
    · cases h
  case astore_n n =>
    unfold s1 at h
    dsimp only at h
    split at h
    · rename_i z S0
      obtain ⟨L1, hL, e1⟩ := Option.map_eq_some_iff.mp h
      cases e1
      exact lv_astore_n hx hb hd rfl hl.has (by rw [← hl.1]; exact lput_lt hL) rfl (fun ls' h' => k ls' (jLs.put hl.1 hL h'))
    · cases h
  case lstore n =>
    unfold s1 at h
    dsimp only at h
    split at h
    · rename_i z S0
      obtain ⟨L1, hL, e1⟩ := Option.map_eq_some_iff.mp h
      cases e1
      exact lv_lstore hx hb hd hl.has (by rw [← hl.1]; exact lput2_lt hL) rfl (fun ls' h' => k ls' (jLs.put2 hl.1 hL h'))
    · cases h
  case lstore_n n =>
    unfold s1 at h
    dsimp only at h
    split at h
    · rename_i z S0
      obtain ⟨L1, hL, e1⟩ := Option.map_eq_some_iff.mp h
      cases e1
      exact lv_lstore_n hx hb hd rfl hl.has (by rw [← hl.1]; exact lput2_lt hL) rfl (fun ls' h' => k ls' (jLs.put2 hl.1 hL h'))
    · cases h
  case iinc n d =>
    unfold s1 at h
    dsimp only at h
    split at h
    · rename_i z hz
      obtain ⟨L1, hL, e1⟩ := Option.map_eq_some_iff.mp h
      cases e1
      obtain ⟨j, hj⟩ := List.getElem?_of_mem (mem_lsl (b := b) hz)
      exact lv_iinc hx hb hd hl.has hj (by rw [← Int32.ofInt_add]) (by rw [← hl.1]; exact lput_lt hL) rfl (fun ls' h' => k ls' (jLs.put hl.1 hL h'))
    · cases h
  case iconst z =>
    unfold s1 at h
    dsimp only at h
    cases h
    exact lv_iconst hx hb hd rfl (k ls hl)
  case bipush z =>
    unfold s1 at h
    dsimp only at h
    split at h <;> cases h
    rename_i hc
    simp only [Bool.and_eq_true, decide_eq_true_eq] at hc
    exact lv_bipush hx hb hd (oI_bi hc.1 hc.2) (k ls hl)
  case sipush z =>
    unfold s1 at h
    dsimp only at h
    split at h <;> cases h
    rename_i hc
    simp only [Bool.and_eq_true, decide_eq_true_eq] at hc
    exact lv_sipush hx hb hd (oI_si hc.1 hc.2) (k ls hl)
  case ldc n =>
    unfold s1 at h
    dsimp only at h
    obtain ⟨z, hz, e1⟩ := Option.map_eq_some_iff.mp h
    cases e1
    exact lv_ldc hx hb hown (tK_use hts hz) hd (k ls hl)
  case ldc_w n =>
    unfold s1 at h
    dsimp only at h
    obtain ⟨z, hz, e1⟩ := Option.map_eq_some_iff.mp h
    cases e1
    exact lv_ldcw hx hb hown (tK_use hts hz) hd (k ls hl)
  case ldc2_w n =>
    unfold s1 at h
    dsimp only at h
    obtain ⟨z, hz, e1⟩ := Option.map_eq_some_iff.mp h
    cases e1
    exact lv_ldc2 hx hb hown (tKK_use hts hz) hd (k ls hl)
  case dup =>
    unfold s1 at h
    dsimp only at h
    split at h
    · split at h <;> cases h
      rename_i v S0 hc
      exact lv_dup hx hb hd (by rw [rv_cat, if_neg hc]) (k ls hl)
    · cases h
  case pop =>
    unfold s1 at h
    dsimp only at h
    split at h
    · split at h <;> cases h
      rename_i v hc
      exact lv_pop hx hb hd (by rw [rv_cat, if_neg hc]) (k ls hl)
    · cases h
  case dup2 =>
    unfold s1 at h
    dsimp only at h
    split at h
    · split at h <;> cases h
      rename_i v w S0 hc
      simp only [Bool.or_eq_true, not_or] at hc
      exact lv_dup2_11 hx hb hd (by rw [rv_cat, if_neg hc.1]) (by rw [rv_cat, if_neg hc.2]) (k ls hl)
    · cases h
  case iadd =>
    unfold s1 at h
    dsimp only at h
    split at h <;> cases h
    refine lv_iadd hx hb hd ?_
    rw [← Int32.ofInt_add]
    exact k ls hl
  case isub =>
    unfold s1 at h
    dsimp only at h
    split at h <;> cases h
    refine lv_isub hx hb hd ?_
    rw [← Int32.ofInt_sub]
    exact k ls hl
  case imul =>
    unfold s1 at h
    dsimp only at h
    split at h <;> cases h
    refine lv_imul hx hb hd ?_
    rw [← Int32.ofInt_mul]
    exact k ls hl
  case ineg =>
    unfold s1 at h
    dsimp only at h
    split at h <;> cases h
    refine lv_ineg hx hb hd ?_
    rw [← Int32.ofInt_neg]
    exact k ls hl
  case idiv =>
    unfold s1 at h
    dsimp only at h
    split at h
    · split at h <;> cases h
      rename_i hc
      simp only [Bool.and_eq_true, decide_eq_true_eq] at hc
      refine lv_idiv hx hb hd (oI_ne0 hc.1.2 hc.2) ?_
      rw [oI_div hc.1.1.1 hc.1.1.2 hc.1.2 hc.2]
      exact k ls hl
    · cases h
  case irem =>
    unfold s1 at h
    dsimp only at h
    split at h
    · split at h <;> cases h
      rename_i hc
      simp only [Bool.and_eq_true, decide_eq_true_eq] at hc
      refine lv_irem hx hb hd (oI_ne0 hc.1.2 hc.2) ?_
      rw [oI_rem hc.1.1.1 hc.1.1.2 hc.1.2 hc.2]
      exact k ls hl
    · cases h
  case lrem =>
    unfold s1 at h
    dsimp only at h
    split at h
    · split at h <;> cases h
      rename_i hc
      simp only [Bool.and_eq_true, decide_eq_true_eq] at hc
      refine lv_lrem hx hb hd (oL_ne0 hc.1.2 hc.2) ?_
      rw [oL_rem hc.1.1.1 hc.1.1.2 hc.1.2 hc.2]
      exact k ls hl
    · cases h
  case lmul =>
    unfold s1 at h
    dsimp only at h
    split at h <;> cases h
    refine lv_lmul hx hb hd ?_
    rw [← Int64.ofInt_mul]
    exact k ls hl
  case ishl =>
    unfold s1 at h
    dsimp only at h
    split at h
    · split at h <;> cases h
      rename_i hc
      simp only [Bool.and_eq_true, decide_eq_true_eq] at hc
      refine lv_ishl hx hb hd ?_
      rw [oI_shl hc.1 hc.2]
      exact k ls hl
    · cases h
  case ishr =>
    unfold s1 at h
    dsimp only at h
    split at h
    · split at h <;> cases h
      rename_i hc
      simp only [Bool.and_eq_true, decide_eq_true_eq] at hc
      refine lv_ishr hx hb hd ?_
      rw [oI_shr hc.1 hc.2]
      exact k ls hl
    · cases h
  case iand =>
    unfold s1 at h
    dsimp only at h
    split at h
    · split at h
      · rename_i hc
        cases h
        subst hc
        refine lv_iand hx hb hd ?_
        rw [oI_and63]
        exact k ls hl
      · split at h <;> cases h
        rename_i hc
        subst hc
        refine lv_iand hx hb hd ?_
        rw [oI_and1]
        exact k ls hl
    · cases h
  case ior =>
    unfold s1 at h
    dsimp only at h
    split at h
    · split at h <;> cases h
      rename_i hc
      simp only [Bool.and_eq_true, decide_eq_true_eq] at hc
      refine lv_ior hx hb hd ?_
      rw [oI_or hc.1.1.1 hc.1.2]
      exact k ls hl
    · cases h
  case i2l =>
    unfold s1 at h
    dsimp only at h
    split at h
    · split at h <;> cases h
      rename_i hc
      exact lv_i2l hx hb hd (oI_i2l hc) (k ls hl)
    · cases h
  case l2i =>
    unfold s1 at h
    dsimp only at h
    split at h <;> cases h
    exact lv_l2i hx hb hd Int64.toInt32_ofInt (k ls hl)
  case i2b =>
    unfold s1 at h
    dsimp only at h
    split at h <;> cases h
    exact lv_i2b hx hb hd (oI_b _) (k ls hl)
  case i2s =>
    unfold s1 at h
    dsimp only at h
    split at h <;> cases h
    exact lv_i2s hx hb hd (oI_s _) (k ls hl)
  all_goals (unfold s1 at h; cases h)
end W1
end
section
/-! the cells of a store, as the kit's worlds have them -/
theorem cl_in : (List.range 12).all (fun c => (u_ws (cN c) (cT c) (cF c)).all (fun w => decide (w ∈ lw_tbl) && goodWord w)) = true := by decide +kernel
theorem cl_q : (List.range 12).all (fun c => decide (jcl[c]?.isSome = true)) = true := by decide +kernel
theorem cl_ty : (List.range 12).all (fun c => (List.range (cF c)).all (fun k => match parseFieldDescriptor (cT c k).2.2.1 with
  | some (.object _) => fR c k
  | some (.array _) => fR c k
  | some .int => !fR c k
  | _ => false)) = true := by decide +kernel
theorem cl_own : (List.range 12).all (fun c => decide (cN c = oN (cO c)) && (List.range (cF c)).all (fun k => decide ((cT c k).1 = oN (cO c)))) = true := by decide +kernel
theorem cl_nm : (List.range 12).all (fun c => (List.range (cF c)).all (fun a => (List.range (cF c)).all (fun b => (a == b) || decide ((cT c a).2.1 ≠ (cT c b).2.1)))) = true := by decide +kernel
theorem rng {n : Nat} {f : Nat → Bool} (h : (List.range n).all f = true) {k : Nat} (hk : k < n) : f k = true := List.all_eq_true.mp h k (List.mem_range.mpr hk)
theorem cl_at {c : Nat} (hc : c < 12) : jcl[c]? = some (cN c, cT c, cF c) := by
  have h := rng cl_q hc
  simp only [decide_eq_true_eq] at h
  obtain ⟨q, hq⟩ := Option.isSome_iff_exists.mp h
  rw [hq]
  unfold cN cT cF cQ
  rw [List.getD_eq_getElem?_getD, hq]
  rfl
theorem cl_use {c : Nat} (hc : c < 12) : ∀ w ∈ u_ws (cN c) (cT c) (cF c), w ∈ jW := by
  intro w hw
  have h := List.all_eq_true.mp (rng cl_in hc) w hw
  simp only [Bool.and_eq_true, decide_eq_true_eq] at h
  exact List.mem_filter.mpr h
/-- the type of a field -/
def cY (c k : Nat) : FieldType := (parseFieldDescriptor (cT c k).2.2.1).getD .int
theorem cl_typ {c k : Nat} (hc : c < 12) (hk : k < cF c) : parseFieldDescriptor (cT c k).2.2.1 = some (cY c k) ∧ ((fR c k = true ∧ ((∃ n, cY c k = .object n) ∨ ∃ t, cY c k = .array t)) ∨ (fR c k = false ∧ cY c k = .int)) := by
  have h := rng (rng cl_ty hc) hk
  unfold cY
  revert h
  cases parseFieldDescriptor (cT c k).2.2.1 with
  | none => intro h; cases h
  | some t => cases t <;> intro h <;> simp_all
theorem cl_name {c : Nat} (hc : c < 12) : ∀ a, a < cF c → ∀ b, b < cF c → a ≠ b → (cT c a).2.1 ≠ (cT c b).2.1 := by
  intro a ha b hb hab
  have h := rng (rng (rng cl_nm hc) ha) hb
  simp only [Bool.or_eq_true, beq_iff_eq, decide_eq_true_eq] at h
  exact h.resolve_left hab
def fld (b c : Nat) (I : Int → Int) (R : Int → Option Nat) : List Value := (List.range (cF c)).map (fun (j : Nat) => if fR c j then va_rf ((R j).map (b + ·)) else .int (Int32.ofInt (I j)))
def wE (b : Nat) (ac : Nat → ClassId) (sh : Nat → Nat × Nat) (I : Nat → Int → Int) (R : Nat → Int → Option Nat) (k : Nat) : va_E :=
  if (sh k).1 < 50 then .inr ((sh k).1, fld b (sh k).1 (I k) (R k))
  else if (sh k).1 < 52 then .inl (ac k, (sh k).2, .inl (fun j => Int32.ofInt (I k j)))
  else .inl (ac k, (sh k).2, .inr (.inr (.inr (.inr (fun j => (R k j).map (b + ·))))))
def wld (b : Nat) (ac : Nat → ClassId) (n : Nat) (sh : Nat → Nat × Nat) (I : Nat → Int → Int) (R : Nat → Int → Option Nat) : va_W := (List.range n).map (fun k => (b + k, wE b ac sh I R k))
section WL
variable {b n k : Nat} {ac : Nat → ClassId} {sh sh' : Nat → Nat × Nat} {I I' : Nat → Int → Int} {R R' : Nat → Int → Option Nat}
theorem wld_at (hk : k < n) : (wld b ac n sh I R)[k]? = some (b + k, wE b ac sh I R k) := by
  unfold wld
  rw [List.getElem?_map, List.getElem?_range hk]
  rfl
theorem wld_len : (wld b ac n sh I R).length = n := by simp [wld]
theorem wld_in {q : Nat × va_E} (h : (wld b ac n sh I R)[k]? = some q) : k < n ∧ q = (b + k, wE b ac sh I R k) := by
  have hk : k < n := by
    have := (List.getElem?_eq_some_iff.mp h).1
    rwa [wld_len] at this
  rw [wld_at hk] at h
  exact ⟨hk, (Option.some.inj h).symm⟩
theorem wld_D {A : Nat → Prop} (hA : ∀ k, k < n → A (b + k)) : va_D A (wld b ac n sh I R) := by
  refine ⟨fun i j p q hp hq e => ?_, fun k q hk => ?_⟩
  · obtain ⟨-, rfl⟩ := wld_in hp
    obtain ⟨-, rfl⟩ := wld_in hq
    have e : b + i = b + j := e
    omega
  · obtain ⟨h1, rfl⟩ := wld_in hk
    exact hA k h1
theorem wld_set {e : va_E} (hk : k < n) (h1 : wE b ac sh I' R' k = e) (h2 : ∀ j, j ≠ k → wE b ac sh I' R' j = wE b ac sh I R j) : (wld b ac n sh I R).set k (b + k, e) = wld b ac n sh I' R' := by
  apply List.ext_getElem?
  intro i
  rw [List.getElem?_set, wld_len]
  by_cases hi : k = i
  · subst hi
    rw [if_pos rfl, if_pos hk, wld_at hk, h1]
  · rw [if_neg hi]
    by_cases hn : i < n
    · rw [wld_at hn, wld_at hn, h2 i (fun e => hi e.symm)]
    · rw [List.getElem?_eq_none (by rw [wld_len]; omega), List.getElem?_eq_none (by rw [wld_len]; omega)]
theorem wE_obj {c : Nat} (h : sh k = (c, 0)) (hc : c < 12) : wE b ac sh I R k = .inr (c, fld b c (I k) (R k)) := by
  unfold wE
  rw [h]
  dsimp only
  rw [if_pos (by omega)]
theorem wE_int (h0 : 50 ≤ (sh k).1) (h : (sh k).1 < 52) : wE b ac sh I R k = .inl (ac k, (sh k).2, .inl (fun j => Int32.ofInt (I k j))) := by
  unfold wE
  rw [if_neg (by omega), if_pos h]
theorem wE_ref (h : 52 ≤ (sh k).1) : wE b ac sh I R k = .inl (ac k, (sh k).2, .inr (.inr (.inr (.inr (fun j => (R k j).map (b + ·)))))) := by
  unfold wE
  rw [if_neg (by omega), if_neg (by omega)]
theorem up_ne {α : Type} {f : Nat → Int → α} {j : Nat} {x : Int} {v : α} (h : j ≠ k) : up f k x v j = f j := by
  funext y
  unfold up
  rw [if_neg (fun e => h e.1)]
theorem fld_at {c j : Nat} {I : Int → Int} {R : Int → Option Nat} (hj : j < cF c) : (fld b c I R)[j]? = some (if fR c j then va_rf ((R j).map (b + ·)) else .int (Int32.ofInt (I j))) := by
  unfold fld
  rw [List.getElem?_map, List.getElem?_range hj]
  rfl
theorem fld_len {c : Nat} {I : Int → Int} {R : Int → Option Nat} : (fld b c I R).length = cF c := by simp [fld]
theorem fld_set {c j : Nat} {I I' : Int → Int} {R R' : Int → Option Nat} {v : Value} (hj : j < cF c) (h1 : (if fR c j then va_rf ((R' j).map (b + ·)) else .int (Int32.ofInt (I' j))) = v) (h2 : ∀ i : Nat, i ≠ j → I' i = I i ∧ R' i = R i) : (fld b c I R).set j v = fld b c I' R' := by
  apply List.ext_getElem?
  intro i
  rw [List.getElem?_set, fld_len]
  by_cases hi : j = i
  · subst hi
    rw [if_pos rfl, if_pos hj, fld_at hj, h1]
  · rw [if_neg hi]
    by_cases hn : i < cF c
    · rw [fld_at hn, fld_at hn, (h2 i (fun e => hi e.symm)).1, (h2 i (fun e => hi e.symm)).2]
    · rw [List.getElem?_eq_none (by rw [fld_len]; omega), List.getElem?_eq_none (by rw [fld_len]; omega)]
end WL
/-- the words that aren't among jW: what the state says of them -/
def noC : List (String × String) := [(RX6, RX8), (RX6, RX0), (RX6, RX10), (RX6, RX2), (RX8, RX0), (RX8, RX10), (RX8, RX2), (RX0, RX8), (RX0, RX10), (RX0, RX2), (RX10, RX6), (RX10, RX8), (RX10, RX0), (RX10, RX2), (RX2, RX6), (RX2, RX8), (RX2, RX0)]
def yesC : List (String × String) := [(RX0, RX6), (RX8, RX6), (RX2, RX10), (RX6, RX4), (RX8, RX4), (RX0, RX4), (RX10, RX4), (RX2, RX4)]
def absM : List MethodName := [⟨RX4, "number", "()I"⟩, ⟨RX4, "bearingOn", "(LChairPast$Chair;I)I"⟩, ⟨RX4, "wear", "(LChairPast$Chair;)V"⟩]
def jX (U : State) : Prop := (∀ e ∈ tJl, va_Nw (.methodLinkNest (oN e.1) e.2.1 (mY e.2.2.1) RX11) U) ∧ (∀ y ∈ absM, va_Nw (.declares y) U) ∧ (∀ q ∈ yesC, va_Nw (.castable q.1 q.2) U) ∧ (∀ C ∈ [RX5, RX4, RX1], va_AO C U) ∧ ∀ q ∈ noC, va_Nc q.1 q.2 U
theorem jX.warm {s U : State} (hW : s.WarmedH U.vm) (h : jX s) : jX U := ⟨fun e he => va_Nw.warmM hW (h.1 e he), fun y hy => va_Nw.warmD hW (h.2.1 y hy), fun q hq => va_Nw.warmC hW (h.2.2.1 q hq), fun C hC => va_AO.moved hW.alike (h.2.2.2.1 C hC), fun q hq => va_Nc.moved hW.alike (h.2.2.2.2 q hq)⟩
theorem jX.same {s U : State} (hv : s.vm = U.vm) (h : jX s) : jX U := by
  refine ⟨fun e he => va_Nw.same rfl hv (h.1 e he), fun y hy => va_Nw.same rfl hv (h.2.1 y hy), fun q hq => va_Nw.same rfl hv (h.2.2.1 q hq), fun C hC => va_AO.moved ?_ (h.2.2.2.1 C hC), fun q hq => va_Nc.moved ?_ (h.2.2.2.2 q hq)⟩ <;> (rw [hv]; exact Vm.Alike.refl _)
/-- the store stands in the heap, its cell 0 at b -/
def jR (D : va_G) (b : Nat) (σ : jS) (U : State) (H : Heap) : Prop :=
  ∃ (ac : Nat → ClassId) (tys : List (ClassId × FieldType)), va_K D jcl tys U ∧
    (∀ k, k < σ.2.1 → ((σ.2.2.2.1 k).1 < 12 ∧ (σ.2.2.2.1 k).2 = 0) ∨ (50 ≤ (σ.2.2.2.1 k).1 ∧ (σ.2.2.2.1 k).1 ≤ 54 ∧ (σ.2.2.2.1 k).2 < 100001 ∧ ∃ t0 : Nat, tys[t0]? = some (ac k, aT (σ.2.2.2.1 k).1))) ∧
    va_P D jcl (wld b ac σ.2.1 σ.2.2.2.1 σ.2.2.2.2.1 σ.2.2.2.2.2) H ∧ jX U
theorem jR.warm {D : va_G} {b : Nat} {σ : jS} {s U : State} {H : Heap} (hW : s.WarmedH U.vm) (h : jR D b σ s H) : jR D b σ U H := by
  obtain ⟨ac, tys, h1, h2, h3, h5⟩ := h
  exact ⟨ac, tys, va_K.moved hW.alike h1, h2, h3, h5.warm hW⟩
theorem jR.same {D : va_G} {b : Nat} {σ : jS} {s U : State} {H : Heap} (hv : s.vm = U.vm) (h : jR D b σ s H) : jR D b σ U H := by
  obtain ⟨ac, tys, h1, h2, h3, h5⟩ := h
  exact ⟨ac, tys, va_K.moved (by rw [hv]; exact Vm.Alike.refl _) h1, h2, h3, h5.same hv⟩
end
section
section W2
variable {p : Program} {l : Launch} {e : Env} {R : Room} {s : State} {m : MethodId} {args : Array Value} {below : List Frame} {meth : Method} {c : Code} {H : Heap} {locs : List Loc} {cells slots : Nat} {Q : State → Prop} {cc : ByteArray} {b nL pc o : Nat} {ls : Array Slot} {rest : List Value} {D : va_G} {σ : jS} {A : Nat → Prop}
theorem tF_use {n ci j rf fin : Nat} (hts : ∀ w ∈ jW, w.before args s = true) (h : tF o n = some (ci, j, rf, fin)) : ci < 12 ∧ j < cF ci ∧ fR ci j = (rf == 1) ∧ (cT ci j).2.2.2 = (fin == 1) ∧ (Cond.fieldLink (oN o) n (cT ci j).1 (cT ci j).2.1 (cT ci j).2.2.1).before args s = true := by
  obtain ⟨⟨e0, e1, e2, e3, e4, e5, e6⟩, he, h1, h2⟩ := find_mem h
  have h3 := List.all_eq_true.mp tF_ok _ he
  simp only [Bool.and_eq_true, beq_iff_eq, decide_eq_true_eq] at h1 h3
  obtain ⟨rfl, rfl⟩ := h1
  cases h2
  exact ⟨h3.1.1.2, h3.1.1.1.2, h3.1.2, h3.2, hts _ (jW_mem h3.1.1.1.1 rfl)⟩
theorem rv_rf (b : Nat) (r : Option Nat) : rv b (.inr (.inr r)) = va_rf (r.map (b + ·)) := by cases r <;> rfl
theorem w_get {n k ci j rf fin : Nat} (hx : p.tables.exec = Jvm.exec) (hb : c.code = cc) (hts : ∀ w ∈ jW, w.before args s = true) (hown : s.vm.findClass (oN o) = some m.cls) (hd : decode cc pc = .ok (.getfield n, 3)) (hR : jR D b σ s H)
    (ht : tF o n = some (ci, j, rf, fin)) (hk : k < σ.2.1) (hs : σ.2.2.2.1 k = (ci, 0)) (kk : W p l e R s m args below meth c H locs cells slots Q (F0 m (pc + 3) ls (rv b (if rf == 1 then .inr (.inr (σ.2.2.2.2.2 k j)) else .inl (σ.2.2.2.2.1 k j)) :: rest))) : W p l e R s m args below meth c H locs cells slots Q (F0 m pc ls (.ref (b + k) :: rest)) := by
  obtain ⟨ac, tys, hK, -, hP, -⟩ := hR
  obtain ⟨h1, h2, h3, -, h4⟩ := tF_use hts ht
  refine va_get hx hb hts (cl_use h1) hown hK hP k (by rw [wld_at hk, wE_obj hs h1]) (cl_at h1) j h2 h4 (fun _ h => h) (by rw [fld_at h2, h3]) hd ?_
  cases hrf : (rf == 1)
  · rw [hrf] at kk; exact kk
  · rw [hrf] at kk; rw [if_pos rfl] at kk ⊢; rw [rv_rf] at kk; exact kk
theorem jR_set {k : Nat} {e : va_E} {ac : Nat → ClassId} {tys : List (ClassId × FieldType)} {I' : Nat → Int → Int} {R' : Nat → Int → Option Nat} {H1 : Heap} (hK : va_K D jcl tys s)
    (hT : ∀ k, k < σ.2.1 → ((σ.2.2.2.1 k).1 < 12 ∧ (σ.2.2.2.1 k).2 = 0) ∨ (50 ≤ (σ.2.2.2.1 k).1 ∧ (σ.2.2.2.1 k).1 ≤ 54 ∧ (σ.2.2.2.1 k).2 < 100001 ∧ ∃ t0 : Nat, tys[t0]? = some (ac k, aT (σ.2.2.2.1 k).1)))
    (hX : jX s) (hk : k < σ.2.1) (h1 : wE b ac σ.2.2.2.1 I' R' k = e) (h2 : ∀ j, j ≠ k → wE b ac σ.2.2.2.1 I' R' j = wE b ac σ.2.2.2.1 σ.2.2.2.2.1 σ.2.2.2.2.2 j)
    (hP : va_P D jcl ((wld b ac σ.2.1 σ.2.2.2.1 σ.2.2.2.2.1 σ.2.2.2.2.2).set k (b + k, e)) H1) : jR D b (σ.1, σ.2.1, σ.2.2.1, σ.2.2.2.1, I', R') s H1 := by
  rw [wld_set hk h1 h2] at hP
  exact ⟨ac, tys, hK, hT, hP, hX⟩
theorem wE_I {k j : Nat} {ac : Nat → ClassId} {sh : Nat → Nat × Nat} {I : Nat → Int → Int} {Rf : Nat → Int → Option Nat} {x z : Int} (h : j ≠ k) : wE b ac sh (up I k x z) Rf j = wE b ac sh I Rf j := by unfold wE; rw [up_ne h]
theorem wE_R {k j : Nat} {ac : Nat → ClassId} {sh : Nat → Nat × Nat} {I : Nat → Int → Int} {Rf : Nat → Int → Option Nat} {x : Int} {z : Option Nat} (h : j ≠ k) : wE b ac sh I (up Rf k x z) j = wE b ac sh I Rf j := by unfold wE; rw [up_ne h]
theorem up_at {α : Type} {f : Nat → Int → α} {k : Nat} {x : Int} {v : α} : up f k x v k x = v := by simp [up]
theorem up_off {α : Type} {f : Nat → Int → α} {k : Nat} {x y : Int} {v : α} (h : y ≠ x) : up f k x v k y = f k y := by simp [up, h]

theorem w_putI {n k ci j rf fin : Nat} {z : Int} (hx : p.tables.exec = Jvm.exec) (hb : c.code = cc) (hts : ∀ w ∈ jW, w.before args s = true) (hown : s.vm.findClass (oN o) = some m.cls) (hd : decode cc pc = .ok (.putfield n, 3)) (hR : jR D b σ s H) (hS : va_S A s.heap H locs) (hA : ∀ k, k < σ.2.1 → A (b + k))
    (ht : tF o n = some (ci, j, rf, fin)) (hk : k < σ.2.1) (hs : σ.2.2.2.1 k = (ci, 0)) (hrf : rf = 0) (hfin : fin = 0)
    (kk : ∀ (H1 : Heap) (locs1 : List Loc), jR D b (σ.1, σ.2.1, σ.2.2.1, σ.2.2.2.1, up σ.2.2.2.2.1 k j z, σ.2.2.2.2.2) s H1 → va_S A s.heap H1 locs1 → W p l e R s m args below meth c H1 locs1 cells slots Q (F0 m (pc + 3) ls rest)) : W p l e R s m args below meth c H locs cells slots Q (F0 m pc ls (.int (Int32.ofInt z) :: .ref (b + k) :: rest)) := by
  obtain ⟨ac, tys, hK, hT, hP, hX⟩ := hR
  obtain ⟨h1, h2, h3, h4, h5⟩ := tF_use hts ht
  subst hrf; subst hfin
  have hty := cl_typ h1 h2
  have hint : cY ci j = .int := by
    rcases hty.2 with ⟨q, -⟩ | ⟨-, q⟩
    · rw [h3] at q; cases q
    · exact q
  refine va_put hx hb hts (cl_use h1) (cY ci) (fun k hk => (cl_typ h1 hk).1) (cl_name h1) hown hK hP (wld_D hA) hS k (by rw [wld_at hk, wE_obj hs h1]) (cl_at h1) j h2 h5 (fun _ h => h) h4 (by rw [hty.1, hint]) rfl rfl (by rw [fld_len]; exact h2) hd (fun H1 locs1 hP1 _ hS1 => kk H1 locs1 ?_ hS1)
  refine jR_set hK hT hX hk ?_ (fun j hj => wE_I hj) hP1
  rw [wE_obj hs h1, fld_set h2 (I' := up σ.2.2.2.2.1 k j z k) (R' := σ.2.2.2.2.2 k)]
  · rw [h3, up_at]; rfl
  · intro i hi
    exact ⟨up_off (by omega), rfl⟩
theorem w_putR {n k q ci j rf fin : Nat} (hx : p.tables.exec = Jvm.exec) (hb : c.code = cc) (hts : ∀ w ∈ jW, w.before args s = true) (hown : s.vm.findClass (oN o) = some m.cls) (hd : decode cc pc = .ok (.putfield n, 3)) (hR : jR D b σ s H) (hS : va_S A s.heap H locs) (hA : ∀ k, k < σ.2.1 → A (b + k))
    (ht : tF o n = some (ci, j, rf, fin)) (hk : k < σ.2.1) (hs : σ.2.2.2.1 k = (ci, 0)) (hrf : rf = 1) (hfin : fin = 0 ∨ (meth.name = "<init>" ∧ cO ci = o))
    (kk : ∀ (H1 : Heap) (locs1 : List Loc), jR D b (σ.1, σ.2.1, σ.2.2.1, σ.2.2.2.1, σ.2.2.2.2.1, up σ.2.2.2.2.2 k j (some q)) s H1 → va_S A s.heap H1 locs1 → W p l e R s m args below meth c H1 locs1 cells slots Q (F0 m (pc + 3) ls rest)) : W p l e R s m args below meth c H locs cells slots Q (F0 m pc ls (.ref (b + q) :: .ref (b + k) :: rest)) := by
  obtain ⟨ac, tys, hK, hT, hP, hX⟩ := hR
  obtain ⟨h1, h2, h3, h4, h5⟩ := tF_use hts ht
  subst hrf
  have hty := cl_typ h1 h2
  have href : (∃ n, cY ci j = .object n) ∨ ∃ t, cY ci j = .array t := by
    rcases hty.2 with ⟨-, q⟩ | ⟨q, -⟩
    · exact q
    · rw [h3] at q; cases q
  have hn : narrow (cY ci j) (.ref (b + q)) = .ref (b + q) := by rcases href with ⟨n, e⟩ | ⟨t, e⟩ <;> rw [e] <;> rfl
  have hf : fits (cY ci j) (.ref (b + q)) = true := by rcases href with ⟨n, e⟩ | ⟨t, e⟩ <;> rw [e] <;> rfl
  have fin : ∀ (H1 : Heap), va_P D jcl ((wld b ac σ.2.1 σ.2.2.2.1 σ.2.2.2.2.1 σ.2.2.2.2.2).set k (b + k, .inr (ci, (fld b ci (σ.2.2.2.2.1 k) (σ.2.2.2.2.2 k)).set j (.ref (b + q))))) H1 → jR D b (σ.1, σ.2.1, σ.2.2.1, σ.2.2.2.1, σ.2.2.2.2.1, up σ.2.2.2.2.2 k j (some q)) s H1 := by
    intro H1 hP1
    refine jR_set hK hT hX hk ?_ (fun j hj => wE_R hj) hP1
    rw [wE_obj hs h1, fld_set h2 (I' := σ.2.2.2.2.1 k) (R' := up σ.2.2.2.2.2 k j (some q) k)]
    · rw [h3, up_at]; rfl
    · intro i hi
      exact ⟨rfl, up_off (by omega)⟩
  cases hf2 : (cT ci j).2.2.2
  · exact va_put hx hb hts (cl_use h1) (cY ci) (fun k hk => (cl_typ h1 hk).1) (cl_name h1) hown hK hP (wld_D hA) hS k (by rw [wld_at hk, wE_obj hs h1]) (cl_at h1) j h2 h5 (fun _ h => h) hf2 hty.1 hn hf (by rw [fld_len]; exact h2) hd (fun H1 locs1 hP1 _ hS1 => kk H1 locs1 (fin H1 hP1) hS1)
  · rcases hfin with h | ⟨hi, ho⟩
    · subst h
      rw [hf2] at h4; cases h4
    · have h6 := rng cl_own h1
      simp only [Bool.and_eq_true, decide_eq_true_eq] at h6
      have h7 := rng h6.2 h2
      simp only [decide_eq_true_eq] at h7
      rw [ho] at h7
      exact va_putF hx hb hts (cl_use h1) (cY ci) (fun k hk => (cl_typ h1 hk).1) (cl_name h1) hown hK hP (wld_D hA) hS k (by rw [wld_at hk, wE_obj hs h1]) (cl_at h1) j h2 h5 (fun _ h => h) hf2 hi h7 hty.1 hn hf (by rw [fld_len]; exact h2) hd (fun H1 locs1 hP1 _ hS1 => kk H1 locs1 (fin H1 hP1) hS1)
end W2
end
section
section W2b
variable {p : Program} {l : Launch} {e : Env} {R : Room} {s : State} {m : MethodId} {args : Array Value} {below : List Frame} {meth : Method} {c : Code} {H : Heap} {locs : List Loc} {cells slots : Nat} {Q : State → Prop} {cc : ByteArray} {b nL pc o : Nat} {ls : Array Slot} {rest : List Value} {D : va_G} {σ : jS} {A : Nat → Prop}
theorem arr_ty {k : Nat} {ac : Nat → ClassId} {tys : List (ClassId × FieldType)} {sh : Nat → Nat × Nat} {n : Nat}
    (hT : ∀ k, k < n → ((sh k).1 < 12 ∧ (sh k).2 = 0) ∨ (50 ≤ (sh k).1 ∧ (sh k).1 ≤ 54 ∧ (sh k).2 < 100001 ∧ ∃ t0 : Nat, tys[t0]? = some (ac k, aT (sh k).1))) (hk : k < n) (h : 50 ≤ (sh k).1) : (sh k).1 ≤ 54 ∧ (sh k).2 < 100001 ∧ ∃ t0 : Nat, tys[t0]? = some (ac k, aT (sh k).1) := by
  rcases hT k hk with ⟨q, -⟩ | ⟨-, h1, h2, h3⟩
  · omega
  · exact ⟨h1, h2, h3⟩
theorem w_iald {k : Nat} {x : Int} (hx : p.tables.exec = Jvm.exec) (hb : c.code = cc) (hd : decode cc pc = .ok (.iaload, 1)) (hR : jR D b σ s H) (hk : k < σ.2.1) (ht : (σ.2.2.2.1 k).1 = 50) (h0 : 0 ≤ x) (h1 : x < (σ.2.2.2.1 k).2)
    (kk : W p l e R s m args below meth c H locs cells slots Q (F0 m (pc + 1) ls (.int (Int32.ofInt (σ.2.2.2.2.1 k x)) :: rest))) : W p l e R s m args below meth c H locs cells slots Q (F0 m pc ls (.int (Int32.ofInt x) :: .ref (b + k) :: rest)) := by
  obtain ⟨ac, tys, hK, hT, hP, hX⟩ := hR
  obtain ⟨-, h2, t0, h3⟩ := arr_ty hT hk (by omega)
  rw [ht] at h3
  have h4 := oI_in h0 h1 h2
  refine va_iald hx hb hK hP k t0 (by rw [wld_at hk, wE_int (by omega) (by omega)]) h3 h4.1 hd ?_
  rw [h4.2, Int.toNat_of_nonneg h0]
  exact kk
theorem w_zald {k : Nat} {x : Int} (hx : p.tables.exec = Jvm.exec) (hb : c.code = cc) (hd : decode cc pc = .ok (.baload, 1)) (hR : jR D b σ s H) (hk : k < σ.2.1) (ht : (σ.2.2.2.1 k).1 = 51) (h0 : 0 ≤ x) (h1 : x < (σ.2.2.2.1 k).2)
    (kk : W p l e R s m args below meth c H locs cells slots Q (F0 m (pc + 1) ls (.int (Int32.ofInt (σ.2.2.2.2.1 k x)) :: rest))) : W p l e R s m args below meth c H locs cells slots Q (F0 m pc ls (.int (Int32.ofInt x) :: .ref (b + k) :: rest)) := by
  obtain ⟨ac, tys, hK, hT, hP, hX⟩ := hR
  obtain ⟨-, h2, t0, h3⟩ := arr_ty hT hk (by omega)
  rw [ht] at h3
  have h4 := oI_in h0 h1 h2
  refine va_zald hx hb hK hP k t0 (by rw [wld_at hk, wE_int (by omega) (by omega)]) h3 h4.1 hd ?_
  rw [h4.2, Int.toNat_of_nonneg h0]
  exact kk
theorem w_aald {k : Nat} {x : Int} (hx : p.tables.exec = Jvm.exec) (hb : c.code = cc) (hd : decode cc pc = .ok (.aaload, 1)) (hR : jR D b σ s H) (hk : k < σ.2.1) (ht : 52 ≤ (σ.2.2.2.1 k).1) (ht2 : (σ.2.2.2.1 k).1 ≤ 54) (h0 : 0 ≤ x) (h1 : x < (σ.2.2.2.1 k).2)
    (kk : W p l e R s m args below meth c H locs cells slots Q (F0 m (pc + 1) ls (rv b (.inr (.inr (σ.2.2.2.2.2 k x))) :: rest))) : W p l e R s m args below meth c H locs cells slots Q (F0 m pc ls (.int (Int32.ofInt x) :: .ref (b + k) :: rest)) := by
  obtain ⟨ac, tys, hK, hT, hP, hX⟩ := hR
  obtain ⟨-, h2, t0, h3⟩ := arr_ty hT hk (by omega)
  have h4 := oI_in h0 h1 h2
  have h5 : aT (σ.2.2.2.1 k).1 = .object (aC (σ.2.2.2.1 k).1) := by
    rcases (show (σ.2.2.2.1 k).1 = 52 ∨ (σ.2.2.2.1 k).1 = 53 ∨ (σ.2.2.2.1 k).1 = 54 by omega) with q | q | q <;> rw [q] <;> rfl
  rw [h5] at h3
  refine va_aldq hx hb hK hP k t0 (by rw [wld_at hk, wE_ref ht]) h3 h4.1 hd ?_
  rw [h4.2, Int.toNat_of_nonneg h0, ← rv_rf]
  exact kk
theorem updI {I : Nat → Int → Int} {k : Nat} {x z : Int} (h0 : 0 ≤ x) : upd (fun (j : Nat) => Int32.ofInt (I k j)) x.toNat (Int32.ofInt z) = fun (j : Nat) => Int32.ofInt (up I k x z k j) := by
  funext j
  unfold upd up
  by_cases h : j = x.toNat
  · rw [if_pos h, if_pos ⟨rfl, by omega⟩]
  · rw [if_neg h, if_neg (fun q => h (by omega))]
theorem w_iast {k : Nat} {x z : Int} (hx : p.tables.exec = Jvm.exec) (hb : c.code = cc) (hd : decode cc pc = .ok (.iastore, 1)) (hR : jR D b σ s H) (hS : va_S A s.heap H locs) (hA : ∀ k, k < σ.2.1 → A (b + k)) (hk : k < σ.2.1) (ht : (σ.2.2.2.1 k).1 = 50) (h0 : 0 ≤ x) (h1 : x < (σ.2.2.2.1 k).2)
    (kk : ∀ (H1 : Heap) (locs1 : List Loc), jR D b (σ.1, σ.2.1, σ.2.2.1, σ.2.2.2.1, up σ.2.2.2.2.1 k x z, σ.2.2.2.2.2) s H1 → va_S A s.heap H1 locs1 → W p l e R s m args below meth c H1 locs1 cells slots Q (F0 m (pc + 1) ls rest)) : W p l e R s m args below meth c H locs cells slots Q (F0 m pc ls (.int (Int32.ofInt z) :: .int (Int32.ofInt x) :: .ref (b + k) :: rest)) := by
  obtain ⟨ac, tys, hK, hT, hP, hX⟩ := hR
  obtain ⟨-, h2, t0, h3⟩ := arr_ty hT hk (by omega)
  rw [ht] at h3
  have h4 := oI_in h0 h1 h2
  refine va_iast hx hb hK hP (wld_D hA) hS k t0 (by rw [wld_at hk, wE_int (by omega) (by omega)]) h3 h4.1 hd (fun H1 locs1 hP1 _ hS1 => kk H1 locs1 ?_ hS1)
  refine jR_set hK hT hX hk ?_ (fun j hj => wE_I hj) hP1
  rw [wE_int (by omega) (by omega), h4.2, updI h0]
theorem w_zast {k : Nat} {x z : Int} (hx : p.tables.exec = Jvm.exec) (hb : c.code = cc) (hd : decode cc pc = .ok (.bastore, 1)) (hR : jR D b σ s H) (hS : va_S A s.heap H locs) (hA : ∀ k, k < σ.2.1 → A (b + k)) (hk : k < σ.2.1) (ht : (σ.2.2.2.1 k).1 = 51) (h0 : 0 ≤ x) (h1 : x < (σ.2.2.2.1 k).2) (hz : z = 0 ∨ z = 1)
    (kk : ∀ (H1 : Heap) (locs1 : List Loc), jR D b (σ.1, σ.2.1, σ.2.2.1, σ.2.2.2.1, up σ.2.2.2.2.1 k x z, σ.2.2.2.2.2) s H1 → va_S A s.heap H1 locs1 → W p l e R s m args below meth c H1 locs1 cells slots Q (F0 m (pc + 1) ls rest)) : W p l e R s m args below meth c H locs cells slots Q (F0 m pc ls (.int (Int32.ofInt z) :: .int (Int32.ofInt x) :: .ref (b + k) :: rest)) := by
  obtain ⟨ac, tys, hK, hT, hP, hX⟩ := hR
  obtain ⟨-, h2, t0, h3⟩ := arr_ty hT hk (by omega)
  rw [ht] at h3
  have h4 := oI_in h0 h1 h2
  refine va_zast hx hb hK hP (wld_D hA) hS k t0 (by rw [wld_at hk, wE_int (by omega) (by omega)]) h3 h4.1 hd (fun H1 locs1 hP1 _ hS1 => kk H1 locs1 ?_ hS1)
  refine jR_set hK hT hX hk ?_ (fun j hj => wE_I hj) hP1
  have h5 : vp_nar .boolean (Int32.ofInt z) = Int32.ofInt z := by rcases hz with rfl | rfl <;> decide
  rw [wE_int (by omega) (by omega), h4.2, h5, updI h0]
theorem updR {Rf : Nat → Int → Option Nat} {k q : Nat} {x : Int} (h0 : 0 ≤ x) : va_up (fun (j : Nat) => (Rf k j).map (b + ·)) x.toNat (some (b + q)) = fun (j : Nat) => (up Rf k x (some q) k j).map (b + ·) := by
  funext j
  unfold va_up up
  by_cases h : j = x.toNat
  · rw [if_pos h, if_pos ⟨rfl, by omega⟩]; rfl
  · rw [if_neg h, if_neg (fun q => h (by omega))]
theorem tIt_use {ci t : Nat} (hX : jX s) (hci : ci < 12) (h : tIt ci t = true) (ht : 52 ≤ t) (ht2 : t ≤ 54) : (cN ci = aC t) ∨ va_Nw (.castable (cN ci) (aC t)) s := by
  rcases (show t = 52 ∨ t = 53 ∨ t = 54 by omega) with rfl | rfl | rfl
  · have h : (ci == 4) = true := h
    rw [beq_iff_eq] at h
    subst h
    exact Or.inl rfl
  · have h : (ci == 5 || ci == 7 || ci == 0 || ci == 9 || ci == 2) = true := h
    simp only [Bool.or_eq_true, beq_iff_eq] at h
    right
    rcases h with (((rfl | rfl) | rfl) | rfl) | rfl
    · exact hX.2.2.1 (RX6, RX4) (by decide)
    · exact hX.2.2.1 (RX8, RX4) (by decide)
    · exact hX.2.2.1 (RX0, RX4) (by decide)
    · exact hX.2.2.1 (RX10, RX4) (by decide)
    · exact hX.2.2.1 (RX2, RX4) (by decide)
  · have h : (ci == 1) = true := h
    rw [beq_iff_eq] at h
    subst h
    exact Or.inl rfl
theorem w_aast {k q : Nat} {x : Int} (hx : p.tables.exec = Jvm.exec) (hb : c.code = cc) (hd : decode cc pc = .ok (.aastore, 1)) (hR : jR D b σ s H) (hS : va_S A s.heap H locs) (hA : ∀ k, k < σ.2.1 → A (b + k)) (hk : k < σ.2.1) (hq : q < σ.2.1) (hq2 : (σ.2.2.2.1 q).1 < 12) (ht : 52 ≤ (σ.2.2.2.1 k).1) (ht2 : (σ.2.2.2.1 k).1 ≤ 54) (hi : tIt (σ.2.2.2.1 q).1 (σ.2.2.2.1 k).1 = true) (h0 : 0 ≤ x) (h1 : x < (σ.2.2.2.1 k).2)
    (kk : ∀ (H1 : Heap) (locs1 : List Loc), jR D b (σ.1, σ.2.1, σ.2.2.1, σ.2.2.2.1, σ.2.2.2.2.1, up σ.2.2.2.2.2 k x (some q)) s H1 → va_S A s.heap H1 locs1 → W p l e R s m args below meth c H1 locs1 cells slots Q (F0 m (pc + 1) ls rest)) : W p l e R s m args below meth c H locs cells slots Q (F0 m pc ls (.ref (b + q) :: .int (Int32.ofInt x) :: .ref (b + k) :: rest)) := by
  obtain ⟨ac, tys, hK, hT, hP, hX⟩ := hR
  obtain ⟨-, h2, t0, h3⟩ := arr_ty hT hk (by omega)
  have h4 := oI_in h0 h1 h2
  have h5 : aT (σ.2.2.2.1 k).1 = .object (aC (σ.2.2.2.1 k).1) := by
    rcases (show (σ.2.2.2.1 k).1 = 52 ∨ (σ.2.2.2.1 k).1 = 53 ∨ (σ.2.2.2.1 k).1 = 54 by omega) with q | q | q <;> rw [q] <;> rfl
  rw [h5] at h3
  have hsq : σ.2.2.2.1 q = ((σ.2.2.2.1 q).1, 0) := by
    rcases hT q hq with ⟨-, z⟩ | ⟨z, -⟩
    · rw [← z]
    · omega
  have fin : ∀ (H1 : Heap), va_P D jcl ((wld b ac σ.2.1 σ.2.2.2.1 σ.2.2.2.2.1 σ.2.2.2.2.2).set k (b + k, .inl (ac k, (σ.2.2.2.1 k).2, .inr (.inr (.inr (.inr (va_up (fun (j : Nat) => (σ.2.2.2.2.2 k j).map (b + ·)) (Int32.ofInt x).toNatClampNeg (some (b + q))))))))) H1 → jR D b (σ.1, σ.2.1, σ.2.2.1, σ.2.2.2.1, σ.2.2.2.2.1, up σ.2.2.2.2.2 k x (some q)) s H1 := by
    intro H1 hP1
    refine jR_set hK hT hX hk ?_ (fun j hj => wE_R hj) hP1
    rw [wE_ref ht, h4.2, updR h0]
  rcases tIt_use hX hq2 hi ht ht2 with h6 | h6
  · exact va_astq hx hb hK hP (wld_D hA) hS k t0 q (σ.2.2.2.1 q).1 (r := (cN (σ.2.2.2.1 q).1, cT (σ.2.2.2.1 q).1, cF (σ.2.2.2.1 q).1)) (by rw [wld_at hk, wE_ref ht]) (by rw [h3]; dsimp only; rw [h6]) (by rw [wld_at hq, wE_obj hsq hq2]) (cl_at hq2) h4.1 hd (fun H1 locs1 hP1 _ hS1 => kk H1 locs1 (fin H1 hP1) hS1)
  · exact va_astqO hx hb hK hP (wld_D hA) hS k t0 q (σ.2.2.2.1 q).1 (r := (cN (σ.2.2.2.1 q).1, cT (σ.2.2.2.1 q).1, cF (σ.2.2.2.1 q).1)) (by rw [wld_at hk, wE_ref ht]) h3 h6 (by rw [wld_at hq, wE_obj hsq hq2]) (cl_at hq2) h4.1 hd (fun H1 locs1 hP1 _ hS1 => kk H1 locs1 (fin H1 hP1) hS1)
theorem w_len {k : Nat} (hx : p.tables.exec = Jvm.exec) (hb : c.code = cc) (hd : decode cc pc = .ok (.arraylength, 1)) (hR : jR D b σ s H) (hk : k < σ.2.1) (ht : 50 ≤ (σ.2.2.2.1 k).1)
    (kk : W p l e R s m args below meth c H locs cells slots Q (F0 m (pc + 1) ls (.int (Int32.ofInt ((σ.2.2.2.1 k).2 : Nat)) :: rest))) : W p l e R s m args below meth c H locs cells slots Q (F0 m pc ls (.ref (b + k) :: rest)) := by
  obtain ⟨ac, tys, hK, hT, hP, hX⟩ := hR
  obtain ⟨h1, h2, t0, h3⟩ := arr_ty hT hk ht
  by_cases h4 : (σ.2.2.2.1 k).1 < 52
  · exact va_alen hx hb hK hP k t0 (by rw [wld_at hk, wE_int ht h4]) h3 (Int32.ofInt_eq_ofNat.symm) hd kk
  · exact va_alen hx hb hK hP k t0 (by rw [wld_at hk, wE_ref (by omega)]) h3 (Int32.ofInt_eq_ofNat.symm) hd kk
theorem tO_use {n w : Nat} (hts : ∀ w ∈ jW, w.before args s = true) (h : tO o n = some w) : (Cond.classLink (oN o) n (oN w)).before args s = true := by
  obtain ⟨⟨e0, e1, e2, e3⟩, he, h1, h2⟩ := find_mem h
  have h3 := List.all_eq_true.mp tO_ok _ he
  simp only [Bool.and_eq_true, beq_iff_eq, decide_eq_true_eq] at h1 h3
  obtain ⟨rfl, rfl⟩ := h1
  cases h2
  exact hts _ (jW_mem h3 rfl)
def inC : List (Nat × Nat × Bool) := [(5, 6, true), (5, 8, false), (5, 0, false), (5, 10, false), (5, 2, false), (7, 6, true), (7, 8, true), (7, 0, false), (7, 10, false), (7, 2, false), (0, 6, true), (0, 8, false), (0, 0, true), (0, 10, false), (0, 2, false), (9, 6, false), (9, 8, false), (9, 0, false), (9, 10, true), (9, 2, false), (2, 6, false), (2, 8, false), (2, 0, false), (2, 10, true), (2, 2, true)]
theorem tIn_in {ci w : Nat} {r : Bool} (h : tIn ci w = some r) : (ci, w, r) ∈ inC := by
  unfold tIn at h
  split at h <;> first | (cases h; decide) | cases h
theorem inC_ok : inC.all (fun q => (decide (q.1 < 12) && decide (q.2.1 < 13)) && if q.2.2 then decide (cN q.1 = oN q.2.1) || decide ((cN q.1, oN q.2.1) ∈ yesC) else decide ((cN q.1, oN q.2.1) ∈ noC)) = true := by decide +kernel
theorem w_inst {n k w : Nat} {r : Bool} (hx : p.tables.exec = Jvm.exec) (hb : c.code = cc) (hts : ∀ w ∈ jW, w.before args s = true) (hown : s.vm.findClass (oN o) = some m.cls) (hd : decode cc pc = .ok (.instanceof n, 3)) (hR : jR D b σ s H) (ht : tO o n = some w) (hk : k < σ.2.1) (hs : (σ.2.2.2.1 k).1 < 12) (hr : tIn (σ.2.2.2.1 k).1 w = some r)
    (kk : W p l e R s m args below meth c H locs cells slots Q (F0 m (pc + 3) ls (.int (Int32.ofInt (if r then 1 else 0)) :: rest))) : W p l e R s m args below meth c H locs cells slots Q (F0 m pc ls (.ref (b + k) :: rest)) := by
  obtain ⟨ac, tys, hK, hT, hP, hX⟩ := hR
  have hsk : σ.2.2.2.1 k = ((σ.2.2.2.1 k).1, 0) := by
    rcases hT k hk with ⟨-, z⟩ | ⟨z, -⟩
    · rw [← z]
    · omega
  have hrec := va_recv hK hP (ci := (σ.2.2.2.1 k).1) (q0 := k) (cl_at hs) (by rw [wld_at hk, wE_obj hsk hs])
  have h1 := List.all_eq_true.mp inC_ok _ (tIn_in hr)
  have hlink := tO_use hts ht
  cases r
  · simp only [Bool.and_eq_true, decide_eq_true_eq] at h1
    have h2 : (cN (σ.2.2.2.1 k).1, oN w) ∈ noC := by simpa using h1.2
    have h3 : va_Nc (cN (σ.2.2.2.1 k).1) (oN w) s := hX.2.2.2.2 _ h2
    exact va_instNo hx hb hown hlink h3 hrec hd kk
  · simp only [Bool.and_eq_true, decide_eq_true_eq, if_true, Bool.or_eq_true] at h1
    rcases h1.2 with h2 | h2
    · have h3 : ClassAt s (cN (σ.2.2.2.1 k).1) _ := (hK.1 _ _ (cl_at hs)).2
      rw [h2] at h3
      exact va_instS hx hb hown hlink h3 (by rw [← h2]; exact hrec) hd kk
    · have h3 : va_Nw (.castable (cN (σ.2.2.2.1 k).1) (oN w)) s := hX.2.2.1 _ h2
      exact va_instY hx hb hown hlink h3 hrec hd kk
end W2b
end
section
section W2c
variable {p : Program} {l : Launch} {e : Env} {R : Room} {s : State} {m : MethodId} {args : Array Value} {below : List Frame} {meth : Method} {c : Code} {H : Heap} {locs : List Loc} {cells slots : Nat} {Q : State → Prop} {cc : ByteArray} {b nL pc o : Nat} {ls : Array Slot} {rest : List Value} {D : va_G} {σ : jS} {A : Nat → Prop}
theorem w_sz {g : JFrame} (kk : s.heap.size ≤ H.size → H.size ≤ s.heap.size + cells → W p l e R s m args below meth c H locs cells slots Q g) : W p l e R s m args below meth c H locs cells slots Q g := by
  intro T hT X
  have h1 : s.heap.size ≤ T.heap.size := X.same.2.1
  have h2 : T.heap.size ≤ s.heap.size + cells := X.same.2.2.1
  rw [hT] at h1 h2
  exact kk h1 h2 T hT X
theorem jR_lt (hR : jR D b σ s H) {k : Nat} (hk : k < σ.2.1) : b + k < H.size := by
  obtain ⟨ac, tys, hK, hT, hP, hX⟩ := hR
  exact (hP k _ (wld_at hk)).lt
theorem jR_new {n sl t len : Nat} {bo : Bool} {sh : Nat → Nat × Nat} {I : Nat → Int → Int} {Rf : Nat → Int → Option Nat} {ac : Nat → ClassId} {tys tys' : List (ClassId × FieldType)} {cA : ClassId} {H1 : Heap} (hK : va_K D jcl tys' s)
    (hT : ∀ k, k < n → ((sh k).1 < 12 ∧ (sh k).2 = 0) ∨ (50 ≤ (sh k).1 ∧ (sh k).1 ≤ 54 ∧ (sh k).2 < 100001 ∧ ∃ t0 : Nat, tys[t0]? = some (ac k, aT (sh k).1))) (hsub : ∀ (t0 : Nat) (q : ClassId × FieldType), tys[t0]? = some q → tys'[t0]? = some q)
    (hP : va_P D jcl (wld b ac n sh I Rf) H) (hX : jX s) (ho : ∀ q, q < b + n → H1[q]? = H[q]?)
    (hnew : (t < 12 ∧ len = 0) ∨ (50 ≤ t ∧ t ≤ 54 ∧ len < 100001 ∧ ∃ t0 : Nat, tys'[t0]? = some (cA, aT t)))
    (hat : va_at D jcl (b + n, wE b (fun _ => cA) (fun _ => (t, len)) (fun _ _ => 0) (fun _ _ => none) n) H1) :
    jR D b (bo, n + 1, sl, (fun a => if a = n then (t, len) else sh a), (fun a b => if a = n then 0 else I a b), (fun a b => if a = n then none else Rf a b)) s H1 := by
  refine ⟨fun a => if a = n then cA else ac a, tys', hK, fun k hk => ?_, fun k q hq => ?_, hX⟩
  · dsimp only at hk ⊢
    by_cases hkn : k = n
    · rw [if_pos hkn, if_pos hkn]; exact hnew
    · rw [if_neg hkn, if_neg hkn]
      rcases hT k (by omega) with h | ⟨h1, h2, h3, t0, h4⟩
      · exact Or.inl h
      · exact Or.inr ⟨h1, h2, h3, t0, hsub _ _ h4⟩
  · obtain ⟨hk, rfl⟩ := wld_in hq
    dsimp only at hk
    by_cases hkn : k = n
    · subst hkn
      have e1 : wE b (fun a => if a = k then cA else ac a) (fun a => if a = k then (t, len) else sh a) (fun a b => if a = k then 0 else I a b) (fun a b => if a = k then none else Rf a b) k = wE b (fun _ => cA) (fun _ => (t, len)) (fun _ _ => 0) (fun _ _ => none) k := by
        unfold wE
        simp only [if_true]
      rw [e1]
      exact hat
    · have e1 : wE b (fun a => if a = n then cA else ac a) (fun a => if a = n then (t, len) else sh a) (fun a b => if a = n then 0 else I a b) (fun a b => if a = n then none else Rf a b) k = wE b ac sh I Rf k := by
        unfold wE
        simp only [if_neg hkn]
      rw [e1]
      exact (hP k _ (wld_at (by omega))).kept (ho _ (by show b + k < b + n; omega))
theorem tN_use {n ci : Nat} (hts : ∀ w ∈ jW, w.before args s = true) (h : tN o n = some ci) : ci < 12 ∧ (Cond.classLink (oN o) n (cN ci)).before args s = true ∧ (Cond.instantiable (cN ci) (cF ci)).before args s = true ∧ (Cond.initialized (cN ci)).before args s = true := by
  obtain ⟨⟨e0, e1, e2, e3, e4, e5⟩, he, h1, h2⟩ := find_mem h
  have h3 := List.all_eq_true.mp tN_ok _ he
  simp only [Bool.and_eq_true, beq_iff_eq, decide_eq_true_eq] at h1 h3
  obtain ⟨rfl, rfl⟩ := h1
  cases h2
  exact ⟨h3.2, hts _ (jW_mem h3.1.1.1 rfl), hts _ (jW_mem h3.1.1.2 rfl), hts _ (jW_mem h3.1.2 rfl)⟩
theorem va_S_new {H0 H1 : Heap} {h : Nat} (hS : va_S A H0 H locs) (hh : H.size = h) (z1 : H1.size = h + 1) (o1 : ∀ q, q < h → H1[q]? = H[q]?) : va_S A H0 H1 locs :=
  ⟨Nat.le_trans hS.1 (by omega), fun x h1 h2 => (o1 x (by have := hS.1; omega)).trans (hS.2.1 x h1 h2), hS.2.2⟩
theorem w_new {n ci : Nat} (hx : p.tables.exec = Jvm.exec) (hb : c.code = cc) (hts : ∀ w ∈ jW, w.before args s = true) (hown : s.vm.findClass (oN o) = some m.cls) (hd : decode cc pc = .ok (.new n, 3)) (hR : jR D b σ s H) (hS : va_S A s.heap H locs) (ht : tN o n = some ci) (hn : 0 < σ.2.1) (hN : s.heap.size + cells = b + σ.2.1) (hcells : cells + 1 ≤ R.cells) (hslots : slots + cF ci ≤ R.slots)
    (kk : ∀ H1 : Heap, jR D b (true, σ.2.1 + 1, σ.2.2.1 + cF ci, (fun a => if a = σ.2.1 then (ci, 0) else σ.2.2.2.1 a), (fun a b => if a = σ.2.1 then 0 else σ.2.2.2.2.1 a b), (fun a b => if a = σ.2.1 then none else σ.2.2.2.2.2 a b)) s H1 → va_S A s.heap H1 locs → W p l e R s m args below meth c H1 locs (cells + 1) (slots + cF ci) Q (F0 m (pc + 3) ls (.ref (b + σ.2.1) :: rest))) : W p l e R s m args below meth c H locs cells slots Q (F0 m pc ls rest) := by
  refine w_sz (fun z1 z2 => ?_)
  have hz : H.size = b + σ.2.1 := by
    have := jR_lt hR (k := σ.2.1 - 1) (by omega)
    omega
  obtain ⟨ac, tys, hK, hT, hP, hX⟩ := hR
  obtain ⟨h1, h2, h3, h4⟩ := tN_use hts ht
  have hKn := hK.1 ci _ (cl_at h1)
  refine W.newcK hx hb hown h2 h3 h4 rfl hd hcells hslots hKn.2.1 hz (fun H1 kC hkC e1 z1 o1 => ?_)
  refine kk H1 (jR_new (cA := 0) hK hT (fun _ _ h => h) hP hX o1 (Or.inl ⟨h1, rfl⟩) ?_) (va_S_new hS hz z1 o1)
  rw [wE_obj (sh := fun _ => (ci, 0)) (k := σ.2.1) rfl h1]
  refine ⟨_, cl_at h1, (u_born (cY ci) hts (cl_use h1) hKn hkC e1 (fun k hk => (cl_typ h1 hk).1)).to (fun j hj => ?_)⟩
  have hj : j < cF ci := hj
  have h5 : (fld b ci (fun _ => 0) (fun _ => none))[j]? = _ := fld_at hj
  unfold vp_V
  rw [List.getD_eq_getElem?_getD, h5, Option.getD_some]
  rcases (cl_typ h1 hj).2 with ⟨q1, ⟨nn, q2⟩ | ⟨nn, q2⟩⟩ | ⟨q1, q2⟩ <;> rw [q1, q2] <;> rfl
theorem va_K_add {tys : List (ClassId × FieldType)} {cA : ClassId} {ty : FieldType} (hK : va_K D jcl tys s) (h1 : ArrOfT s cA ty) (h2 : va_RA s cA ty) : va_K D jcl (tys ++ [(cA, ty)]) s := by
  refine hK.app ⟨hK.1, fun k q hk => ?_⟩
  have hz : k < 1 := (List.getElem?_eq_some_iff.mp hk).1
  rw [show k = 0 by omega] at hk
  cases hk
  exact ⟨h1, h2⟩
theorem app_l {α : Type} {l l' : List α} (t0 : Nat) (q : α) (h : l[t0]? = some q) : (l ++ l')[t0]? = some q := by
  rw [List.getElem?_append_left (List.getElem?_eq_some_iff.mp h).1]; exact h
theorem app_r {α : Type} {l : List α} {q : α} : ∃ t0 : Nat, (l ++ [q])[t0]? = some q := ⟨l.length, by simp⟩
theorem oI_pos {x : Int} (h0 : 0 ≤ x) (h1 : x < 100000) : ¬ Int32.ofInt x < 0 ∧ (Int32.ofInt x).toNatClampNeg = x.toNat := by
  rw [oI_nat h0]
  exact ⟨nI_pos (by omega), nI_clamp (by omega)⟩
theorem w_newa {x : Int} {t : ArrayType} (hx : p.tables.exec = Jvm.exec) (hb : c.code = cc) (hts : ∀ w ∈ jW, w.before args s = true) (hd : decode cc pc = .ok (.newarray t, 2)) (hR : jR D b σ s H) (hS : va_S A s.heap H locs) (ht : t = .int ∨ t = .boolean) (h0 : 0 ≤ x) (h1 : x < 100000) (hn : 0 < σ.2.1) (hN : s.heap.size + cells = b + σ.2.1) (hcells : cells + 1 ≤ R.cells) (hslots : slots + x.toNat ≤ R.slots)
    (kk : ∀ H1 : Heap, jR D b (true, σ.2.1 + 1, σ.2.2.1 + x.toNat, (fun a => if a = σ.2.1 then (if t == .int then 50 else 51, x.toNat) else σ.2.2.2.1 a), (fun a b => if a = σ.2.1 then 0 else σ.2.2.2.2.1 a b), (fun a b => if a = σ.2.1 then none else σ.2.2.2.2.2 a b)) s H1 → va_S A s.heap H1 locs → W p l e R s m args below meth c H1 locs (cells + 1) (slots + x.toNat) Q (F0 m (pc + 2) ls (.ref (b + σ.2.1) :: rest))) : W p l e R s m args below meth c H locs cells slots Q (F0 m pc ls (.int (Int32.ofInt x) :: rest)) := by
  refine w_sz (fun z1 z2 => ?_)
  have hz : H.size = b + σ.2.1 := by
    have := jR_lt hR (k := σ.2.1 - 1) (by omega)
    omega
  obtain ⟨ac, tys, hK, hT, hP, hX⟩ := hR
  have hp := oI_pos h0 h1
  rcases ht with rfl | rfl
  · refine va_newaK hx hb (atype := .int) (hts (.arrayClass .int) (jW_mem (i := 108) (by decide +kernel) rfl)) (g := F0 m pc ls (.int (Int32.ofInt x) :: rest)) rfl hd rfl hp.1 hp.2 (by show x.toNat * 4 ≤ _; omega) hcells hslots hz (fun H1 cA e1 z1 o1 hAr hNm => ?_)
    refine kk H1 (jR_new (tys' := tys ++ [(cA, .int)]) (cA := cA) (va_K_add (ty := .int) hK hAr hNm) hT (fun _ _ h => app_l _ _ h) hP hX o1 (Or.inr ⟨by show 50 ≤ 50; decide, by show 50 ≤ 54; decide, by show x.toNat < _; omega, app_r⟩) ?_) (va_S_new hS hz z1 o1)
    rw [wE_int (by show 50 ≤ 50; decide) (by show 50 < 52; decide)]
    exact e1
  · refine va_newaK hx hb (atype := .boolean) (hts (.arrayClass .boolean) (jW_mem (i := 1059) (by decide +kernel) rfl)) (g := F0 m pc ls (.int (Int32.ofInt x) :: rest)) rfl hd rfl hp.1 hp.2 (by show x.toNat * 1 ≤ _; omega) hcells hslots hz (fun H1 cA e1 z1 o1 hAr hNm => ?_)
    refine kk H1 (jR_new (tys' := tys ++ [(cA, .boolean)]) (cA := cA) (va_K_add (ty := .boolean) hK hAr hNm) hT (fun _ _ h => app_l _ _ h) hP hX o1 (Or.inr ⟨by show 50 ≤ 51; decide, by show 51 ≤ 54; decide, by show x.toNat < _; omega, app_r⟩) ?_) (va_S_new hS hz z1 o1)
    rw [wE_int (by show 50 ≤ 51; decide) (by show 51 < 52; decide)]
    exact e1
theorem tA_use {n t : Nat} (hts : ∀ w ∈ jW, w.before args s = true) (h : tA o n = some t) : 52 ≤ t ∧ t ≤ 54 ∧ (Cond.classLink (oN o) n (aC t)).before args s = true := by
  obtain ⟨⟨e0, e1, e2, e3, e4⟩, he, h1, h2⟩ := find_mem h
  have h3 := List.all_eq_true.mp tA_ok _ he
  simp only [Bool.and_eq_true, beq_iff_eq, decide_eq_true_eq] at h1 h3
  obtain ⟨rfl, rfl⟩ := h1
  cases h2
  exact ⟨h3.1.2, h3.2, hts _ (jW_mem h3.1.1.1 rfl)⟩
theorem w_anew {x : Int} {n t : Nat} (hx : p.tables.exec = Jvm.exec) (hb : c.code = cc) (hts : ∀ w ∈ jW, w.before args s = true) (hown : s.vm.findClass (oN o) = some m.cls) (hd : decode cc pc = .ok (.anewarray n, 3)) (hR : jR D b σ s H) (hS : va_S A s.heap H locs) (ht : tA o n = some t) (h0 : 0 ≤ x) (h1 : x < 100000) (hn : 0 < σ.2.1) (hN : s.heap.size + cells = b + σ.2.1) (hcells : cells + 1 ≤ R.cells) (hslots : slots + x.toNat ≤ R.slots)
    (kk : ∀ H1 : Heap, jR D b (true, σ.2.1 + 1, σ.2.2.1 + x.toNat, (fun a => if a = σ.2.1 then (t, x.toNat) else σ.2.2.2.1 a), (fun a b => if a = σ.2.1 then 0 else σ.2.2.2.2.1 a b), (fun a b => if a = σ.2.1 then none else σ.2.2.2.2.2 a b)) s H1 → va_S A s.heap H1 locs → W p l e R s m args below meth c H1 locs (cells + 1) (slots + x.toNat) Q (F0 m (pc + 3) ls (.ref (b + σ.2.1) :: rest))) : W p l e R s m args below meth c H locs cells slots Q (F0 m pc ls (.int (Int32.ofInt x) :: rest)) := by
  refine w_sz (fun z1 z2 => ?_)
  have hz : H.size = b + σ.2.1 := by
    have := jR_lt hR (k := σ.2.1 - 1) (by omega)
    omega
  obtain ⟨ac, tys, hK, hT, hP, hX⟩ := hR
  obtain ⟨h2, h3, h4⟩ := tA_use hts ht
  have hp := oI_pos h0 h1
  have h5 : va_AO (aC t) s ∧ aT t = .object (aC t) := by
    rcases (show t = 52 ∨ t = 53 ∨ t = 54 by omega) with rfl | rfl | rfl
    · exact ⟨hX.2.2.2.1 RX5 (by decide), rfl⟩
    · exact ⟨hX.2.2.2.1 RX4 (by decide), rfl⟩
    · exact ⟨hX.2.2.2.1 RX1 (by decide), rfl⟩
  refine W.anew hx hb hown h4 (va_AO.use h5.1) rfl hd rfl hp.1 (by rw [hp.2]; omega) hcells (by rw [hp.2]; exact hslots) (fun cA kA comp f1 f2 f3 f4 => ?_)
  rw [hp.2, arrV_new, hz]
  generalize hH1 : H.push (arrV cA x.toNat (fun _ => .null)) = H1
  have z3 : H1.size = b + σ.2.1 + 1 := by rw [← hH1, Array.size_push, hz]
  have o1 : ∀ q, q < b + σ.2.1 → H1[q]? = H[q]? := fun q hq => by
    rw [← hH1, Array.getElem?_push, if_neg (by omega)]
  have e1 : H1[b + σ.2.1]? = some (arrV cA x.toNat (fun _ => .null)) := by rw [← hH1, ← hz, Array.getElem?_push_size]
  refine kk H1 (jR_new (tys' := tys ++ [(cA, aT t)]) (cA := cA) (va_K_add hK ?_ ?_) hT (fun _ _ h => app_l _ _ h) hP hX o1 (Or.inr ⟨by omega, h3, by omega, app_r⟩) ?_) (va_S_new hS hz z3 o1)
  · rw [h5.2]
    exact fun N z => ⟨(fun k h => by cases h), kA, f2, comp, f3⟩
  · rw [h5.2]
    exact ⟨kA, comp, f2, f3, f4, f1⟩
  · rw [wE_ref h2]
    exact e1
end W2c
end
section
section W2d
variable {p : Program} {l : Launch} {e : Env} {R : Room} {s : State} {m : MethodId} {args : Array Value} {below : List Frame} {meth : Method} {c : Code} {H : Heap} {locs : List Loc} {cells slots : Nat} {Q : State → Prop} {cc : ByteArray} {b nL pc o : Nat} {ls : Array Slot} {rest : List Value} {D : va_G} {σ : jS} {A : Nat → Prop}
theorem sz_rv (b : Nat) (S : List jV) : ((S.map (rv b)).map fun v => v.category).sum = szS S := by
  unfold szS
  rw [List.map_map]
  congr 1
  apply List.map_congr_left
  intro v _
  exact rv_cat b v
/-- a call whose contract is any: what is behind it -/
theorem w_call {Qa : State → Outcome → State → Prop} {free : Addr → Prop} {mc ms : Nat} {st0 : List Value} (hr : va_Run p l e R s m args below meth c H locs cells slots mc ms (F0 m pc ls st0) rest Qa free)
    (kk : ∀ (v : Option Value) (st₀ t : State) (H1 : Heap) (L : List Loc), st₀.heap = H → t.heap = H1 → s.WarmedH t.vm → Qa st₀ (.returned v) t → (∀ q ∈ L, free q.base) → W p l e R s m args below meth c H1 (locs ++ L) (cells + mc) (slots + ms) Q (F0 m (pc + 3) ls (v.toList ++ rest))) : W p l e R s m args below meth c H locs cells slots Q (F0 m pc ls st0) := by
  intro T hT X
  obtain ⟨v, st₀, t, T', L, h0, X', hL, e1, e2, hq, st⟩ := hr T hT X
  obtain ⟨t2, a1, b1⟩ := kk v st₀ t T'.heap L h0 e1.symm (by rw [← e2]; exact X'.warmed) hq hL T' rfl X'
  exact ⟨t2, st t2 a1, b1⟩
theorem tB_use {n : Nat} (hts : ∀ w ∈ jW, w.before args s = true) (h : tB o n = true) : (Cond.methodLink (oN o) n objectInit).before args s = true := by
  obtain ⟨⟨e0, e1, e2⟩, he, h1⟩ := List.any_eq_true.mp h
  have h3 := List.all_eq_true.mp tB_ok _ he
  simp only [Bool.and_eq_true, beq_iff_eq, decide_eq_true_eq] at h1 h3
  obtain ⟨rfl, rfl⟩ := h1
  exact hts _ (jW_mem h3 rfl)
def natY (w : Nat) : MethodName := match w with | 0 => arraycopyName | 1 => ⟨RJ6, "bitCount", "(I)I"⟩ | 2 => Lib.Math.abs.name | 3 => Lib.Math.max.name | _ => Lib.Math.min.name
theorem tM_use {n w : Nat} (hts : ∀ w ∈ jW, w.before args s = true) (h : tM o n = some w) : (Cond.methodLink (oN o) n (natY w)).before args s = true := by
  obtain ⟨⟨e0, e1, e2, e3⟩, he, h1, h2⟩ := find_mem h
  have h3 := List.all_eq_true.mp tM_ok _ he
  simp only [Bool.and_eq_true, beq_iff_eq, decide_eq_true_eq] at h1 h3
  obtain ⟨rfl, rfl⟩ := h1
  have h2 : e2 = w := h2
  subst h2
  have h4 : lw_tbl[e3]? = some (.methodLink (oN e0) e1 (natY e2)) := h3
  exact hts _ (jW_mem h4 rfl)
theorem w_obj {n : Nat} {a : Addr} (hx : p.tables.exec = Jvm.exec) (hb : c.code = cc) (hml : c.maxLocals = ls.size) (hts : ∀ w ∈ jW, w.before args s = true) (hown : s.vm.findClass (oN o) = some m.cls) (hd : decode cc pc = .ok (.invokespecial n, 3)) (ht : tB o n = true) (hf : 1 ≤ R.frames) (hlo : (rest.map fun v => v.category).sum + 12 ≤ R.locals)
    (kk : W p l e R s m args below meth c H locs cells slots Q (F0 m (pc + 3) ls rest)) : W p l e R s m args below meth c H locs cells slots Q (F0 m pc ls (.ref a :: rest)) := by
  refine W.objInit hx hb hown (tB_use hts ht) (hts (.instanceMethod objectInit) (jW_mem (i := 83) (by decide +kernel) rfl)) (hts (.code objectInit ⟨#[0xb1]⟩ 1 none) (jW_mem (i := 84) (by decide +kernel) rfl)) rfl hml.symm rfl hd hf ?_ kk
  show 2 * 0 + _ + 12 ≤ _
  omega
theorem w_max {n : Nat} {x y : Int} (hx : p.tables.exec = Jvm.exec) (hb : c.code = cc) (hml : c.maxLocals = ls.size) (hts : ∀ w ∈ jW, w.before args s = true) (hown : s.vm.findClass (oN o) = some m.cls) (hd : decode cc pc = .ok (.invokestatic n, 3)) (ht : tM o n = some 3) (hf : 1 ≤ R.frames) (hlo : (rest.map fun v => v.category).sum + 13 ≤ R.locals) (hc : cells ≤ R.cells) (hs : slots ≤ R.slots) (h1 : inB x = true) (h2 : inB y = true)
    (kk : W p l e R s m args below meth c H locs cells slots Q (F0 m (pc + 3) ls (.int (Int32.ofInt (if x < y then y else x)) :: rest))) : W p l e R s m args below meth c H locs cells slots Q (F0 m pc ls (.int (Int32.ofInt y) :: .int (Int32.ofInt x) :: rest)) := by
  refine va_mmax hx hb hml hown (tM_use hts ht) (hts (.static Lib.Math.max.name) (jW_mem (i := 93) (by decide +kernel) rfl)) (hts (.initialized "java/lang/Math") (jW_mem (i := 63) (by decide +kernel) rfl)) (hts (.code Lib.Math.max.name Lib.Math.max.code 2 (some .int)) (jW_mem (i := 94) (by decide +kernel) rfl)) hf hlo hc hs hd ?_
  by_cases h : x < y
  · rw [if_pos ((oI_lt h1 h2).mpr h)]; rw [if_pos h] at kk; exact kk
  · rw [if_neg (fun q => h ((oI_lt h1 h2).mp q))]; rw [if_neg h] at kk; exact kk
theorem w_min {n : Nat} {x y : Int} (hx : p.tables.exec = Jvm.exec) (hb : c.code = cc) (hml : c.maxLocals = ls.size) (hts : ∀ w ∈ jW, w.before args s = true) (hown : s.vm.findClass (oN o) = some m.cls) (hd : decode cc pc = .ok (.invokestatic n, 3)) (ht : tM o n = some 4) (hf : 1 ≤ R.frames) (hlo : (rest.map fun v => v.category).sum + 13 ≤ R.locals) (hc : cells ≤ R.cells) (hs : slots ≤ R.slots) (h1 : inB x = true) (h2 : inB y = true)
    (kk : W p l e R s m args below meth c H locs cells slots Q (F0 m (pc + 3) ls (.int (Int32.ofInt (if x < y then x else y)) :: rest))) : W p l e R s m args below meth c H locs cells slots Q (F0 m pc ls (.int (Int32.ofInt y) :: .int (Int32.ofInt x) :: rest)) := by
  refine va_mmin hx hb hml hown (tM_use hts ht) (hts (.static Lib.Math.min.name) (jW_mem (i := 612) (by decide +kernel) rfl)) (hts (.initialized "java/lang/Math") (jW_mem (i := 63) (by decide +kernel) rfl)) (hts (.code Lib.Math.min.name Lib.Math.min.code 2 (some .int)) (jW_mem (i := 613) (by decide +kernel) rfl)) hf hlo hc hs hd ?_
  by_cases h : y < x
  · rw [if_pos ((oI_lt h2 h1).mpr h)]; rw [if_neg (by omega)] at kk; exact kk
  · rw [if_neg (fun q => h ((oI_lt h2 h1).mp q))]
    by_cases h3 : x < y
    · rw [if_pos h3] at kk; exact kk
    · rw [if_neg h3, show y = x by omega] at kk; exact kk
theorem w_abs {n : Nat} {x : Int} (hx : p.tables.exec = Jvm.exec) (hb : c.code = cc) (hml : c.maxLocals = ls.size) (hts : ∀ w ∈ jW, w.before args s = true) (hown : s.vm.findClass (oN o) = some m.cls) (hd : decode cc pc = .ok (.invokestatic n, 3)) (ht : tM o n = some 2) (hf : 1 ≤ R.frames) (hlo : (rest.map fun v => v.category).sum + 13 ≤ R.locals) (hc : cells ≤ R.cells) (hs : slots ≤ R.slots) (h1 : inB x = true)
    (kk : W p l e R s m args below meth c H locs cells slots Q (F0 m (pc + 3) ls (.int (Int32.ofInt (if 0 ≤ x then x else -x)) :: rest))) : W p l e R s m args below meth c H locs cells slots Q (F0 m pc ls (.int (Int32.ofInt x) :: rest)) := by
  refine va_mabs hx hb hml hown (tM_use hts ht) (hts (.static Lib.Math.abs.name) (jW_mem (i := 664) (by decide +kernel) rfl)) (hts (.initialized "java/lang/Math") (jW_mem (i := 63) (by decide +kernel) rfl)) (hts (.code Lib.Math.abs.name Lib.Math.abs.code 1 (some .int)) (jW_mem (i := 665) (by decide +kernel) rfl)) hf hlo hc hs hd ?_
  have h0 : (0 : Int32) ≤ Int32.ofInt x ↔ 0 ≤ x := oI_le (x := 0) (by decide) h1
  by_cases h : 0 ≤ x
  · rw [if_pos (h0.mpr h)]; rw [if_pos h] at kk; exact kk
  · rw [if_neg (fun q => h (h0.mp q))]; rw [if_neg h] at kk
    have e1 : (0 : Int32) - Int32.ofInt x = Int32.ofInt (-x) := by
      rw [show (0 : Int32) = Int32.ofInt 0 from rfl, ← Int32.ofInt_sub]
      congr 1
      omega
    rw [e1]; exact kk
theorem cpyI {I : Nat → Int → Int} {k0 k1 : Nat} {sp dp n : Int} (h0 : 0 ≤ sp) (h1 : 0 ≤ dp) (h2 : 0 ≤ n) : va_cpy (fun (j : Nat) => Int32.ofInt (I k0 j)) (fun (j : Nat) => Int32.ofInt (I k1 j)) sp.toNat dp.toNat n.toNat = fun (j : Nat) => Int32.ofInt (cpI I k0 k1 sp dp n k1 j) := by
  funext j
  unfold va_cpy cpI
  by_cases h : dp.toNat ≤ j ∧ j < dp.toNat + n.toNat
  · rw [if_pos h, if_pos ⟨rfl, by omega, by omega⟩]
    have : ((sp.toNat + (j - dp.toNat) : Nat) : Int) = sp + ((j : Int) - dp) := by omega
    rw [← this]
  · rw [if_neg h, if_neg (fun q => h (by omega))]
theorem w_copy {n k0 k1 : Nat} {x sp dp : Int} (hx : p.tables.exec = Jvm.exec) (hb : c.code = cc) (hml : c.maxLocals = ls.size) (hts : ∀ w ∈ jW, w.before args s = true) (hown : s.vm.findClass (oN o) = some m.cls) (hd : decode cc pc = .ok (.invokestatic n, 3)) (ht : tM o n = some 0) (hf : 1 ≤ R.frames) (hlo : (rest.map fun v => v.category).sum + 18 ≤ R.locals) (hR : jR D b σ s H) (hS : va_S A s.heap H locs) (hA : ∀ k, k < σ.2.1 → A (b + k))
    (g0 : k0 < σ.2.1) (g1 : k1 < σ.2.1) (t0 : (σ.2.2.2.1 k0).1 = 50) (t1 : (σ.2.2.2.1 k1).1 = 50) (h0 : 0 ≤ sp) (h1 : 0 ≤ dp) (h2 : 0 ≤ x) (h3 : sp + x ≤ (σ.2.2.2.1 k0).2) (h4 : dp + x ≤ (σ.2.2.2.1 k1).2)
    (kk : ∀ (H1 : Heap) (locs1 : List Loc), jR D b (σ.1, σ.2.1, σ.2.2.1, σ.2.2.2.1, cpI σ.2.2.2.2.1 k0 k1 sp dp x, σ.2.2.2.2.2) s H1 → va_S A s.heap H1 locs1 → W p l e R s m args below meth c H1 locs1 cells slots Q (F0 m (pc + 3) ls rest)) : W p l e R s m args below meth c H locs cells slots Q (F0 m pc ls (.int (Int32.ofInt x) :: .int (Int32.ofInt dp) :: .ref (b + k1) :: .int (Int32.ofInt sp) :: .ref (b + k0) :: rest)) := by
  obtain ⟨ac, tys, hK, hT, hP, hX⟩ := hR
  obtain ⟨-, l0, u0, e0⟩ := arr_ty hT g0 (by omega)
  obtain ⟨-, l1, u1, e1⟩ := arr_ty hT g1 (by omega)
  rw [t0] at e0
  rw [t1] at e1
  have n1 : ∀ z : Int, 0 ≤ z → z < 100001 → ¬ Int32.ofInt z < 0 ∧ (Int32.ofInt z).toNatClampNeg = z.toNat := fun z hz hz2 => by
    rw [oI_nat hz]
    exact ⟨nI_pos (by omega), nI_clamp (by omega)⟩
  have a0 := n1 sp h0 (by omega)
  have a1 := n1 dp h1 (by omega)
  have a2 := n1 x h2 (by omega)
  refine va_copyi hx hb hml hown (tM_use hts ht) (hts (.native arraycopyName) (jW_mem (i := 405) (by decide +kernel) rfl)) (hts (.static arraycopyName) (jW_mem (i := 404) (by decide +kernel) rfl)) (hts (.initialized "java/lang/System") (jW_mem (i := 75) (by decide +kernel) rfl)) hK hP (wld_D hA) hS k0 k1 u0 u1 (by rw [wld_at g0, wE_int (by omega) (by omega)]) (by rw [wld_at g1, wE_int (by omega) (by omega)]) e0 e1 rfl a0.1 a1.1 a2.1 (by rw [a0.2, a2.2]; omega) (by rw [a1.2, a2.2]; omega) (fun _ _ => rfl) hf (by rw [show nativeFrameWords "java/lang/System" "arraycopy" 5 = 7 from by decide]; exact hlo) hd (fun H1 locs1 hP1 _ hS1 => kk H1 locs1 ?_ hS1)
  refine jR_set hK hT hX g1 ?_ (fun j hj => ?_) hP1
  · rw [wE_int (by omega) (by omega), a0.2, a1.2, a2.2, cpyI h0 h1 h2]
  · unfold wE
    have : cpI σ.2.2.2.2.1 k0 k1 sp dp x j = σ.2.2.2.2.1 j := by
      funext y
      unfold cpI
      rw [if_neg (fun q => hj q.1)]
    rw [this]
end W2d
end
section
/-! Integer.bitCount, at 0 to 31 -/
def yBC : MethodName := ⟨RJ6, "bitCount", "(I)I"⟩
abbrev cBC : ByteArray := prog_15_method_49_code
def wBC : List Cond := .code yBC cBC 1 (some .int) :: [.constant RJ6 265 1431655765, .constant RJ6 266 858993459, .constant RJ6 267 252645135]
theorem dBC_0 : decode cBC 0 = .ok (.iload_n 0, 1) := by decide +kernel
theorem dBC_1 : decode cBC 1 = .ok (.iload_n 0, 1) := by decide +kernel
theorem dBC_2 : decode cBC 2 = .ok (.iconst 1, 1) := by decide +kernel
theorem dBC_3 : decode cBC 3 = .ok (.iushr, 1) := by decide +kernel
theorem dBC_4 : decode cBC 4 = .ok (.ldc_w 265, 3) := by decide +kernel
theorem dBC_7 : decode cBC 7 = .ok (.iand, 1) := by decide +kernel
theorem dBC_8 : decode cBC 8 = .ok (.isub, 1) := by decide +kernel
theorem dBC_9 : decode cBC 9 = .ok (.istore_n 0, 1) := by decide +kernel
theorem dBC_10 : decode cBC 10 = .ok (.iload_n 0, 1) := by decide +kernel
theorem dBC_11 : decode cBC 11 = .ok (.ldc_w 266, 3) := by decide +kernel
theorem dBC_14 : decode cBC 14 = .ok (.iand, 1) := by decide +kernel
theorem dBC_15 : decode cBC 15 = .ok (.iload_n 0, 1) := by decide +kernel
theorem dBC_16 : decode cBC 16 = .ok (.iconst 2, 1) := by decide +kernel
theorem dBC_17 : decode cBC 17 = .ok (.iushr, 1) := by decide +kernel
theorem dBC_18 : decode cBC 18 = .ok (.ldc_w 266, 3) := by decide +kernel
theorem dBC_21 : decode cBC 21 = .ok (.iand, 1) := by decide +kernel
theorem dBC_22 : decode cBC 22 = .ok (.iadd, 1) := by decide +kernel
theorem dBC_23 : decode cBC 23 = .ok (.istore_n 0, 1) := by decide +kernel
theorem dBC_24 : decode cBC 24 = .ok (.iload_n 0, 1) := by decide +kernel
theorem dBC_25 : decode cBC 25 = .ok (.iload_n 0, 1) := by decide +kernel
theorem dBC_26 : decode cBC 26 = .ok (.iconst 4, 1) := by decide +kernel
theorem dBC_27 : decode cBC 27 = .ok (.iushr, 1) := by decide +kernel
theorem dBC_28 : decode cBC 28 = .ok (.iadd, 1) := by decide +kernel
theorem dBC_29 : decode cBC 29 = .ok (.ldc_w 267, 3) := by decide +kernel
theorem dBC_32 : decode cBC 32 = .ok (.iand, 1) := by decide +kernel
theorem dBC_33 : decode cBC 33 = .ok (.istore_n 0, 1) := by decide +kernel
theorem dBC_34 : decode cBC 34 = .ok (.iload_n 0, 1) := by decide +kernel
theorem dBC_35 : decode cBC 35 = .ok (.iload_n 0, 1) := by decide +kernel
theorem dBC_36 : decode cBC 36 = .ok (.bipush 8, 2) := by decide +kernel
theorem dBC_38 : decode cBC 38 = .ok (.iushr, 1) := by decide +kernel
theorem dBC_39 : decode cBC 39 = .ok (.iadd, 1) := by decide +kernel
theorem dBC_40 : decode cBC 40 = .ok (.istore_n 0, 1) := by decide +kernel
theorem dBC_41 : decode cBC 41 = .ok (.iload_n 0, 1) := by decide +kernel
theorem dBC_42 : decode cBC 42 = .ok (.iload_n 0, 1) := by decide +kernel
theorem dBC_43 : decode cBC 43 = .ok (.bipush 16, 2) := by decide +kernel
theorem dBC_45 : decode cBC 45 = .ok (.iushr, 1) := by decide +kernel
theorem dBC_46 : decode cBC 46 = .ok (.iadd, 1) := by decide +kernel
theorem dBC_47 : decode cBC 47 = .ok (.istore_n 0, 1) := by decide +kernel
theorem dBC_48 : decode cBC 48 = .ok (.iload_n 0, 1) := by decide +kernel
theorem dBC_49 : decode cBC 49 = .ok (.bipush 63, 2) := by decide +kernel
theorem dBC_51 : decode cBC 51 = .ok (.iand, 1) := by decide +kernel
theorem dBC_52 : decode cBC 52 = .ok (.ireturn, 1) := by decide +kernel
def bcF (x : Int32) : Int32 :=
  let s (x k : Int32) : Int32 := (x.toUInt32 >>> (k.toUInt32 &&& Int32.toUInt32 31)).toInt32
  let x1 := x - (s x 1 &&& 1431655765)
  let x2 := (x1 &&& 858993459) + (s x1 2 &&& 858993459)
  let x3 := (x2 + s x2 4) &&& 252645135
  let x4 := x3 + s x3 8
  let x5 := x4 + s x4 16
  x5 &&& 63
theorem bcF_ok : ∀ n, n < 32 → bcF (nI n) = Int32.ofInt (bitC (n : Int)) := by decide +kernel
set_option maxHeartbeats 4000000 in
theorem c_BC (l : Launch) (x : Int32) : Met l yBC wBC { frames := 0, cells := 0, slots := 0, locals := 0 } (va_Pc [.int x] (fun _ => True)) (fun _ st oc t => oc = .returned (some (.int (bcF x))) ∧ t.heap = st.heap) 0 0 (fun _ => False) := by
  refine Met.ofW (cc := cBC) (maxL := 1) (ret := some .int) (by decide +kernel) rfl ?_
  intro p e s m args below meth c s₁ B hml hv
  obtain ⟨rfl, -⟩ := hv
  have hx := B.exec
  have hb := B.bytes
  have hr := B.returns
  have hts := atoms_spec (ws := wBC) B.pre
  have hown : s.vm.findClass RJ6 = some m.cls := findClass_of_methodNamed B.named
  have hlocks := B.notSynchronized
  have hl := lv_entry ([.int x]) (n := 1) (Nat.le_of_ble_eq_true rfl)
  rw [lg_entry_eq]
  generalize (lg_sl ([.int x]) ++ List.replicate (1 - (lg_sl ([.int x])).length) Slot.unset).toArray = ls at hl ⊢
  have hl : lv_has ls 1 [(0, .int x)] := hl
  refine lv_iload_n hx hb dBC_0 rfl (lv_at hl 0 rfl) ?_
  refine lv_iload_n hx hb dBC_1 rfl (lv_at hl 0 rfl) ?_
  refine lv_iconst (v := 1) hx hb dBC_2 (by decide) ?_
  refine lv_iushr hx hb dBC_3 rfl ?_
  refine lv_ldcw hx hb hown (hts (.constant RJ6 265 1431655765) (by decide +kernel)) dBC_4 ?_
  refine lv_iand hx hb dBC_7 ?_
  refine lv_isub hx hb dBC_8 ?_
  refine lv_topi (fun y1 e1 => ?_)
  refine lv_istore_n (lv' := [(0, .int y1)]) hx hb dBC_9 rfl hl (by decide) rfl (fun ls hl => ?_)
  refine lv_iload_n hx hb dBC_10 rfl (lv_at hl 0 rfl) ?_
  refine lv_ldcw hx hb hown (hts (.constant RJ6 266 858993459) (by decide +kernel)) dBC_11 ?_
  refine lv_iand hx hb dBC_14 ?_
  refine lv_iload_n hx hb dBC_15 rfl (lv_at hl 0 rfl) ?_
  refine lv_iconst (v := 2) hx hb dBC_16 (by decide) ?_
  refine lv_iushr hx hb dBC_17 rfl ?_
  refine lv_ldcw hx hb hown (hts (.constant RJ6 266 858993459) (by decide +kernel)) dBC_18 ?_
  refine lv_iand hx hb dBC_21 ?_
  refine lv_iadd hx hb dBC_22 ?_
  refine lv_topi (fun y2 e2 => ?_)
  refine lv_istore_n (lv' := [(0, .int y2)]) hx hb dBC_23 rfl hl (by decide) rfl (fun ls hl => ?_)
  refine lv_iload_n hx hb dBC_24 rfl (lv_at hl 0 rfl) ?_
  refine lv_iload_n hx hb dBC_25 rfl (lv_at hl 0 rfl) ?_
  refine lv_iconst (v := 4) hx hb dBC_26 (by decide) ?_
  refine lv_iushr hx hb dBC_27 rfl ?_
  refine lv_iadd hx hb dBC_28 ?_
  refine lv_ldcw hx hb hown (hts (.constant RJ6 267 252645135) (by decide +kernel)) dBC_29 ?_
  refine lv_iand hx hb dBC_32 ?_
  refine lv_topi (fun y3 e3 => ?_)
  refine lv_istore_n (lv' := [(0, .int y3)]) hx hb dBC_33 rfl hl (by decide) rfl (fun ls hl => ?_)
  refine lv_iload_n hx hb dBC_34 rfl (lv_at hl 0 rfl) ?_
  refine lv_iload_n hx hb dBC_35 rfl (lv_at hl 0 rfl) ?_
  refine lv_bipush (v := 8) hx hb dBC_36 (by decide) ?_
  refine lv_iushr hx hb dBC_38 rfl ?_
  refine lv_iadd hx hb dBC_39 ?_
  refine lv_topi (fun y4 e4 => ?_)
  refine lv_istore_n (lv' := [(0, .int y4)]) hx hb dBC_40 rfl hl (by decide) rfl (fun ls hl => ?_)
  refine lv_iload_n hx hb dBC_41 rfl (lv_at hl 0 rfl) ?_
  refine lv_iload_n hx hb dBC_42 rfl (lv_at hl 0 rfl) ?_
  refine lv_bipush (v := 16) hx hb dBC_43 (by decide) ?_
  refine lv_iushr hx hb dBC_45 rfl ?_
  refine lv_iadd hx hb dBC_46 ?_
  refine lv_topi (fun y5 e5 => ?_)
  refine lv_istore_n (lv' := [(0, .int y5)]) hx hb dBC_47 rfl hl (by decide) rfl (fun ls hl => ?_)
  refine lv_iload_n hx hb dBC_48 rfl (lv_at hl 0 rfl) ?_
  refine lv_bipush (v := 63) hx hb dBC_49 (by decide) ?_
  refine lv_iand hx hb dBC_51 ?_
  subst e1; subst e2; subst e3; subst e4; subst e5
  exact W.iret hx hb hr (fun t ht hW => ⟨rfl, ht⟩) (fun q h => by cases h) dBC_52
section W2e
variable {p : Program} {l : Launch} {e : Env} {R : Room} {s : State} {m : MethodId} {args : Array Value} {below : List Frame} {meth : Method} {c : Code} {H : Heap} {locs : List Loc} {cells slots : Nat} {Q : State → Prop} {cc : ByteArray} {b nL pc o : Nat} {ls : Array Slot} {rest : List Value} {D : va_G} {σ : jS} {A : Nat → Prop}
theorem wBC_in : GoodIn jW wBC := by
  intro w hw
  have h : w ∈ jW := by
    rcases List.mem_cons.mp hw with rfl | hw
    · exact jW_mem (i := 723) (by decide +kernel) rfl
    rcases List.mem_cons.mp hw with rfl | hw
    · exact jW_mem (i := 724) (by decide +kernel) rfl
    rcases List.mem_cons.mp hw with rfl | hw
    · exact jW_mem (i := 725) (by decide +kernel) rfl
    rcases List.mem_cons.mp hw with rfl | hw
    · exact jW_mem (i := 726) (by decide +kernel) rfl
    · cases hw
  exact ⟨h, good_of_word (List.mem_filter.mp h).2⟩
theorem w_bit {n : Nat} {x : Int} (hx : p.tables.exec = Jvm.exec) (hb : c.code = cc) (hml : c.maxLocals = ls.size) (hts : ∀ w ∈ jW, w.before args s = true) (hown : s.vm.findClass (oN o) = some m.cls) (hd : decode cc pc = .ok (.invokestatic n, 3)) (ht : tM o n = some 1) (hf : 1 ≤ R.frames) (hlo : 20 ≤ R.locals) (hre : (rest.map fun v => v.category).sum ≤ 8) (hc : cells ≤ R.cells) (hs : slots ≤ R.slots) (h1 : 0 ≤ x) (h2 : x < 32)
    (kk : W p l e R s m args below meth c H locs cells slots Q (F0 m (pc + 3) ls (.int (Int32.ofInt (bitC x)) :: rest))) : W p l e R s m args below meth c H locs cells slots Q (F0 m pc ls (.int (Int32.ofInt x) :: rest)) := by
  refine w_call (va_runS (As := [.int (Int32.ofInt x)]) (rest := rest) (n := 1) ⟨hx, hb, hml, hown, hts⟩ (c_BC l (Int32.ofInt x)) ⟨callB_of 1 hts wBC_in rfl rfl rfl (hts (.initialized RJ6) (jW_mem (i := 76) (by decide +kernel) rfl)) (tM_use hts ht) (by decide +kernel) ⟨hf, by omega⟩, hts (.static yBC) (jW_mem (i := 722) (by decide +kernel) rfl)⟩ ⟨fun a U g mk q => q, fun U hU hW => ⟨rfl, trivial⟩⟩ rfl rfl rfl rfl (lv_room hre) hd ⟨hc, hs⟩) (fun v st₀ t H1 L e1 e2 hW hq hL => ?_)
  obtain ⟨hv, ht⟩ := hq
  cases hv
  have e3 : H1 = H := by rw [← e2, ht, e1]
  subst e3
  have e4 : L = [] := by
    cases L with
    | nil => rfl
    | cons q L => exact absurd (hL q List.mem_cons_self) id
  subst e4
  rw [List.append_nil]
  have e5 : bcF (Int32.ofInt x) = Int32.ofInt (bitC x) := by
    rw [oI_nat h1, bcF_ok x.toNat (by omega), Int.toNat_of_nonneg h1]
  rw [e5]
  exact kk
end W2e
end
section
section W2f
variable {p : Program} {l : Launch} {e : Env} {R : Room} {s : State} {m : MethodId} {args : Array Value} {below : List Frame} {meth : Method} {c : Code} {H : Heap} {locs : List Loc} {cells slots : Nat} {Q : State → Prop} {cc : ByteArray} {b nL pc o : Nat} {ls : Array Slot} {D : va_G} {σ σ' : jS} {A : Nat → Prop} {S S' : List jV}
set_option maxHeartbeats 4000000 in
theorem w2 {i : Instr} {init : Bool} (hx : p.tables.exec = Jvm.exec) (hb : c.code = cc) (hml : c.maxLocals = ls.size) (hts : ∀ w ∈ jW, w.before args s = true) (hown : s.vm.findClass (oN o) = some m.cls) (hd : decode cc pc = .ok (i, ilen i)) (hin : init = true → meth.name = "<init>") (hR : jR D b σ s H) (hS : va_S A s.heap H locs) (hA : ∀ k, k < σ'.2.1 → A (b + k)) (hN : σ.1 = true → s.heap.size + cells = b + σ.2.1) (hf : 1 ≤ R.frames) (hlo : 100 ≤ R.locals) (hc : cells + (σ'.2.1 - σ.2.1) ≤ R.cells) (hs : slots + (σ'.2.2.1 - σ.2.2.1) ≤ R.slots) (h : s2 o init i S σ = some (S', σ'))
    (k : ∀ (H1 : Heap) (locs1 : List Loc) (cells1 slots1 : Nat), jR D b σ' s H1 → va_S A s.heap H1 locs1 → σ'.1 = σ.1 → cells1 + σ.2.1 = cells + σ'.2.1 → slots1 + σ.2.2.1 = slots + σ'.2.2.1 → W p l e R s m args below meth c H1 locs1 cells1 slots1 Q (F0 m (pc + ilen i) ls (S'.map (rv b)))) : W p l e R s m args below meth c H locs cells slots Q (F0 m pc ls (S.map (rv b))) := by
  cases i
  case getfield n =>
    unfold s2 at h
    dsimp only at h
    split at h
    · rename_i kk S0 ci j rf fin ht
      split at h
      · rename_i hc1
        simp only [Bool.and_eq_true, decide_eq_true_eq] at hc1
        refine w_get (ls := ls) hx hb hts hown hd hR ht hc1.1 hc1.2 ?_
        split at h
        · rename_i h1
          cases h
          rw [if_pos h1]
          exact k H locs cells slots hR hS rfl rfl rfl
        · rename_i h1
          cases h
          rw [if_neg h1]
          exact k H locs cells slots hR hS rfl rfl rfl
      · cases h
    · cases h
  case putfield n =>
    unfold s2 at h
    dsimp only at h
    split at h
    · rename_i z kk S0 ci j rf fin ht
      split at h <;> cases h
      rename_i hc1
      simp only [Bool.and_eq_true, decide_eq_true_eq, beq_iff_eq] at hc1
      exact w_putI hx hb hts hown hd hR hS hA ht hc1.1.1.1 hc1.1.1.2 hc1.1.2 hc1.2 (fun H1 l1 g1 g2 => k H1 l1 cells slots g1 g2 rfl rfl rfl)
    · rename_i q kk S0 ci j rf fin ht
      split at h <;> cases h
      rename_i hc1
      simp only [Bool.and_eq_true, decide_eq_true_eq, beq_iff_eq, Bool.or_eq_true] at hc1
      exact w_putR hx hb hts hown hd hR hS hA ht hc1.1.1.1 hc1.1.1.2 hc1.1.2 (hc1.2.imp id (fun q => ⟨hin q.1, q.2⟩)) (fun H1 l1 g1 g2 => k H1 l1 cells slots g1 g2 rfl rfl rfl)
    · cases h
  case iaload =>
    unfold s2 at h
    dsimp only at h
    split at h
    · split at h <;> cases h
      rename_i hc1
      simp only [Bool.and_eq_true, decide_eq_true_eq, beq_iff_eq] at hc1
      exact w_iald hx hb hd hR hc1.1.1.1 hc1.1.1.2 hc1.1.2 hc1.2 (k H locs cells slots hR hS rfl rfl rfl)
    · cases h
  case baload =>
    unfold s2 at h
    dsimp only at h
    split at h
    · split at h <;> cases h
      rename_i hc1
      simp only [Bool.and_eq_true, decide_eq_true_eq, beq_iff_eq] at hc1
      exact w_zald hx hb hd hR hc1.1.1.1 hc1.1.1.2 hc1.1.2 hc1.2 (k H locs cells slots hR hS rfl rfl rfl)
    · cases h
  case aaload =>
    unfold s2 at h
    dsimp only at h
    split at h
    · split at h <;> cases h
      rename_i hc1
      simp only [Bool.and_eq_true, decide_eq_true_eq] at hc1
      exact w_aald hx hb hd hR hc1.1.1.1.1 hc1.1.1.1.2 hc1.1.1.2 hc1.1.2 hc1.2 (k H locs cells slots hR hS rfl rfl rfl)
    · cases h
  case iastore =>
    unfold s2 at h
    dsimp only at h
    split at h
    · split at h <;> cases h
      rename_i hc1
      simp only [Bool.and_eq_true, decide_eq_true_eq, beq_iff_eq] at hc1
      exact w_iast hx hb hd hR hS hA hc1.1.1.1 hc1.1.1.2 hc1.1.2 hc1.2 (fun H1 l1 g1 g2 => k H1 l1 cells slots g1 g2 rfl rfl rfl)
    · cases h
  case bastore =>
    unfold s2 at h
    dsimp only at h
    split at h
    · split at h <;> cases h
      rename_i hc1
      simp only [Bool.and_eq_true, decide_eq_true_eq, beq_iff_eq, Bool.or_eq_true] at hc1
      exact w_zast hx hb hd hR hS hA hc1.1.1.1.1 hc1.1.1.1.2 hc1.1.1.2 hc1.1.2 hc1.2 (fun H1 l1 g1 g2 => k H1 l1 cells slots g1 g2 rfl rfl rfl)
    · cases h
  case aastore =>
    unfold s2 at h
    dsimp only at h
    split at h
    · split at h <;> cases h
      rename_i hc1
      simp only [Bool.and_eq_true, decide_eq_true_eq] at hc1
      exact w_aast hx hb hd hR hS hA hc1.1.1.1.1.1.1.1 hc1.1.1.1.1.1.1.2 hc1.1.1.1.1.1.2 hc1.1.1.1.1.2 hc1.1.1.1.2 hc1.1.1.2 hc1.1.2 hc1.2 (fun H1 l1 g1 g2 => k H1 l1 cells slots g1 g2 rfl rfl rfl)
    · cases h
  case arraylength =>
    unfold s2 at h
    dsimp only at h
    split at h
    · split at h <;> cases h
      rename_i hc1
      simp only [Bool.and_eq_true, decide_eq_true_eq] at hc1
      exact w_len hx hb hd hR hc1.1.1 hc1.1.2 (k H locs cells slots hR hS rfl rfl rfl)
    · cases h
  case instanceof n =>
    unfold s2 at h
    dsimp only at h
    split at h
    · rename_i kk S0 w ht
      split at h
      · rename_i hc1
        simp only [Bool.and_eq_true, decide_eq_true_eq] at hc1
        obtain ⟨r, hr, e1⟩ := Option.map_eq_some_iff.mp h
        cases e1
        exact w_inst hx hb hts hown hd hR ht hc1.1 hc1.2 hr (k H locs cells slots hR hS rfl rfl rfl)
      · cases h
    · cases h
  case new n =>
    unfold s2 at h
    dsimp only at h
    obtain ⟨ci, ht, h⟩ := Option.bind_eq_some_iff.mp h
    split at h <;> cases h
    rename_i hc1
    simp only [Bool.and_eq_true, decide_eq_true_eq] at hc1
    dsimp only at hc hs
    refine w_new hx hb hts hown hd hR hS ht hc1.2 (hN hc1.1) (by omega) (by omega) (fun H1 g1 g2 => k H1 locs _ _ g1 g2 hc1.1.symm ?_ ?_)
    · dsimp only; omega
    · dsimp only; omega
  case newarray t =>
    unfold s2 at h
    dsimp only at h
    split at h
    · split at h <;> cases h
      rename_i hc1
      simp only [Bool.and_eq_true, decide_eq_true_eq, Bool.or_eq_true, beq_iff_eq] at hc1
      dsimp only at hc hs
      have ht : t = .int ∨ t = .boolean := by
        have q := hc1.2
        clear k hd hc1
        cases t <;> first | exact Or.inl rfl | exact Or.inr rfl | (rcases q with q | q <;> cases q)
      refine w_newa hx hb hts hd hR hS ht hc1.1.1.2 hc1.1.2 hc1.1.1.1.2 (hN hc1.1.1.1.1) (by omega) (by omega) (fun H1 g1 g2 => k H1 locs _ _ g1 g2 hc1.1.1.1.1.symm ?_ ?_)
      · dsimp only; omega
      · dsimp only; omega
    · cases h
  case anewarray n =>
    unfold s2 at h
    dsimp only at h
    split at h
    · rename_i x S0 t ht
      split at h <;> cases h
      rename_i hc1
      simp only [Bool.and_eq_true, decide_eq_true_eq] at hc1
      dsimp only at hc hs
      refine w_anew hx hb hts hown hd hR hS ht hc1.1.2 hc1.2 hc1.1.1.2 (hN hc1.1.1.1) (by omega) (by omega) (fun H1 g1 g2 => k H1 locs _ _ g1 g2 hc1.1.1.1.symm ?_ ?_)
      · dsimp only; omega
      · dsimp only; omega
    · cases h
  case invokespecial n =>
    unfold s2 at h
    dsimp only at h
    split at h
    · split at h <;> cases h
      rename_i hc1
      simp only [Bool.and_eq_true, decide_eq_true_eq] at hc1
      exact w_obj hx hb hml hts hown hd hc1.1 hf (by rw [sz_rv]; omega) (k H locs cells slots hR hS rfl rfl rfl)
    · cases h
  case invokestatic n =>
    unfold s2 at h
    dsimp only at h
    split at h
    · rename_i ht
      split at h
      · split at h <;> cases h
        rename_i hc1
        simp only [Bool.and_eq_true, decide_eq_true_eq, beq_iff_eq] at hc1
        exact w_copy hx hb hml hts hown hd ht hf (by rw [sz_rv]; omega) hR hS hA hc1.1.1.1.1.1.1.1.1.1 hc1.1.1.1.1.1.1.1.1.2 hc1.1.1.1.1.1.1.1.2 hc1.1.1.1.1.1.1.2 hc1.1.1.1.1.1.2 hc1.1.1.1.1.2 hc1.1.1.1.2 hc1.1.1.2 hc1.1.2 (fun H1 l1 g1 g2 => k H1 l1 cells slots g1 g2 rfl rfl rfl)
      · cases h
    · rename_i ht
      split at h
      · split at h <;> cases h
        rename_i hc1
        simp only [Bool.and_eq_true, decide_eq_true_eq] at hc1
        exact w_abs hx hb hml hts hown hd ht hf (by rw [sz_rv]; omega) (by omega) (by omega) (inB_iff.mpr (by omega)) (k H locs cells slots hR hS rfl rfl rfl)
      · cases h
    · rename_i ht
      split at h
      · split at h <;> cases h
        rename_i hc1
        simp only [Bool.and_eq_true, decide_eq_true_eq] at hc1
        exact w_max hx hb hml hts hown hd ht hf (by rw [sz_rv]; omega) (by omega) (by omega) hc1.1.1 hc1.1.2 (k H locs cells slots hR hS rfl rfl rfl)
      · cases h
    · rename_i ht
      split at h
      · split at h <;> cases h
        rename_i hc1
        simp only [Bool.and_eq_true, decide_eq_true_eq] at hc1
        exact w_min hx hb hml hts hown hd ht hf (by rw [sz_rv]; omega) (by omega) (by omega) hc1.1.1 hc1.1.2 (k H locs cells slots hR hS rfl rfl rfl)
      · cases h
    · rename_i ht
      split at h
      · split at h <;> cases h
        rename_i hc1
        simp only [Bool.and_eq_true, decide_eq_true_eq] at hc1
        exact w_bit hx hb hml hts hown hd ht hf (by omega) (by rw [sz_rv]; exact hc1.2) (by omega) (by omega) hc1.1.1 hc1.1.2 (k H locs cells slots hR hS rfl rfl rfl)
      · cases h
    · cases h
  all_goals (unfold s2 at h; cases h)
theorem toPc_eq {off : Int} {t : Nat} (h : toPc pc off = some t) : (pc : Int) + off = (t : Int) := by
  unfold toPc at h
  split at h <;> cases h
  rename_i h1
  simp only [decide_eq_true_eq] at h1
  omega
set_option maxHeartbeats 4000000 in
theorem w3 {i : Instr} {len pc' : Nat} (hx : p.tables.exec = Jvm.exec) (hb : c.code = cc) (hd : decode cc pc = .ok (i, len)) (hle : lenOk i len = true) (h : s3 i pc len S = some (pc', S'))
    (k : W p l e R s m args below meth c H locs cells slots Q (F0 m pc' ls (S'.map (rv b)))) : W p l e R s m args below meth c H locs cells slots Q (F0 m pc ls (S.map (rv b))) := by
  cases i
  case goto off =>
    have hle : (len == 3) = true := hle
    rw [beq_iff_eq] at hle
    subst hle
    unfold s3 at h
    dsimp only at h
    obtain ⟨t, ht, e1⟩ := Option.map_eq_some_iff.mp h
    cases e1
    exact lv_goto hx hb hd (toPc_eq ht) k
  case ifCond cd off =>
    have hle : (len == 3) = true := hle
    rw [beq_iff_eq] at hle
    subst hle
    unfold s3 at h
    dsimp only at h
    split at h
    · rename_i x S0
      split at h
      · rename_i h0
        have e0 : Int32.ofInt x = 0 ↔ x = 0 := oI_eq (y := 0) h0 (by decide)
        have e1 : Int32.ofInt x < 0 ↔ x < 0 := oI_lt (y := 0) h0 (by decide)
        have e2 : Int32.ofInt x ≤ 0 ↔ x ≤ 0 := oI_le (y := 0) h0 (by decide)
        have e3 : (0 : Int32) < Int32.ofInt x ↔ 0 < x := oI_lt (x := 0) (by decide) h0
        have e4 : (0 : Int32) ≤ Int32.ofInt x ↔ 0 ≤ x := oI_le (x := 0) (by decide) h0
        obtain ⟨t, ht, e1'⟩ := Option.map_eq_some_iff.mp h
        cases e1'
        have ht := toPc_eq ht
        cases cd
        · exact lv_if_eq hx hb hd ht (fun q => by rw [if_pos (by simpa [cmpB] using e0.mp q)] at k; exact k) (fun q => by rw [if_neg (by simpa [cmpB] using fun z => q (e0.mpr z))] at k; exact k)
        · exact lv_if_ne hx hb hd ht (fun q => by rw [if_pos (by simpa [cmpB] using fun z => q (e0.mpr z))] at k; exact k) (fun q => by rw [if_neg (by simpa [cmpB] using e0.mp q)] at k; exact k)
        · exact lv_if_lt hx hb hd ht (fun q => by rw [if_pos (by simpa [cmpB] using e1.mp q)] at k; exact k) (fun q => by rw [if_neg (by simpa [cmpB] using fun z => q (e1.mpr z))] at k; exact k)
        · exact lv_if_ge hx hb hd ht (fun q => by rw [if_pos (by simpa [cmpB] using e4.mp q)] at k; exact k) (fun q => by rw [if_neg (by simpa [cmpB] using fun z => q (e4.mpr z))] at k; exact k)
        · exact lv_if_gt hx hb hd ht (fun q => by rw [if_pos (by simpa [cmpB] using e3.mp q)] at k; exact k) (fun q => by rw [if_neg (by simpa [cmpB] using fun z => q (e3.mpr z))] at k; exact k)
        · exact lv_if_le hx hb hd ht (fun q => by rw [if_pos (by simpa [cmpB] using e2.mp q)] at k; exact k) (fun q => by rw [if_neg (by simpa [cmpB] using fun z => q (e2.mpr z))] at k; exact k)
      · cases h
    · cases h
  case if_icmp cd off =>
    have hle : (len == 3) = true := hle
    rw [beq_iff_eq] at hle
    subst hle
    unfold s3 at h
    dsimp only at h
    split at h
    · rename_i y x S0
      split at h
      · rename_i h0
        simp only [Bool.and_eq_true] at h0
        have e0 : Int32.ofInt x = Int32.ofInt y ↔ x = y := oI_eq h0.1 h0.2
        have e1 : Int32.ofInt x < Int32.ofInt y ↔ x < y := oI_lt h0.1 h0.2
        have e2 : Int32.ofInt x ≤ Int32.ofInt y ↔ x ≤ y := oI_le h0.1 h0.2
        have e3 : Int32.ofInt y < Int32.ofInt x ↔ y < x := oI_lt h0.2 h0.1
        have e4 : Int32.ofInt y ≤ Int32.ofInt x ↔ y ≤ x := oI_le h0.2 h0.1
        obtain ⟨t, ht, e1'⟩ := Option.map_eq_some_iff.mp h
        cases e1'
        have ht := toPc_eq ht
        cases cd
        · exact lv_icmp_eq hx hb hd ht (fun q => by rw [if_pos (by simpa [cmpB] using e0.mp q)] at k; exact k) (fun q => by rw [if_neg (by simpa [cmpB] using fun z => q (e0.mpr z))] at k; exact k)
        · exact lv_icmp_ne hx hb hd ht (fun q => by rw [if_pos (by simpa [cmpB] using fun z => q (e0.mpr z))] at k; exact k) (fun q => by rw [if_neg (by simpa [cmpB] using e0.mp q)] at k; exact k)
        · exact lv_icmp_lt hx hb hd ht (fun q => by rw [if_pos (by simpa [cmpB] using e1.mp q)] at k; exact k) (fun q => by rw [if_neg (by simpa [cmpB] using fun z => q (e1.mpr z))] at k; exact k)
        · exact lv_icmp_ge hx hb hd ht (fun q => by rw [if_pos (by simpa [cmpB] using e4.mp q)] at k; exact k) (fun q => by rw [if_neg (by simpa [cmpB] using fun z => q (e4.mpr z))] at k; exact k)
        · exact lv_icmp_gt hx hb hd ht (fun q => by rw [if_pos (by simpa [cmpB] using e3.mp q)] at k; exact k) (fun q => by rw [if_neg (by simpa [cmpB] using fun z => q (e3.mpr z))] at k; exact k)
        · exact lv_icmp_le hx hb hd ht (fun q => by rw [if_pos (by simpa [cmpB] using e2.mp q)] at k; exact k) (fun q => by rw [if_neg (by simpa [cmpB] using fun z => q (e2.mpr z))] at k; exact k)
      · cases h
    · cases h
  case tableswitch df lo hi offs =>
    unfold s3 at h
    dsimp only at h
    split at h
    · rename_i x S0
      split at h
      · rename_i h0
        split at h
        · rename_i h1
          obtain ⟨t, ht, e1⟩ := Option.map_eq_some_iff.mp h
          cases e1
          exact lv_tableOut hx hb hd (by rw [oI_t h0]; exact h1) (toPc_eq ht) k
        · rename_i h1
          obtain ⟨off, ho, h⟩ := Option.bind_eq_some_iff.mp h
          obtain ⟨t, ht, e1⟩ := Option.map_eq_some_iff.mp h
          cases e1
          exact lv_tableIn hx hb hd (by rw [oI_t h0]; omega) (by rw [oI_t h0]; omega) (by rw [oI_t h0]; exact ho) (toPc_eq ht) k
      · cases h
    · cases h
  case lookupswitch df ps =>
    unfold s3 at h
    dsimp only at h
    split at h
    · rename_i x S0
      split at h
      · rename_i h0
        simp only [Bool.and_eq_true] at h0
        obtain ⟨t, ht, e1⟩ := Option.map_eq_some_iff.mp h
        cases e1
        exact lv_lookup hx hb hd h0.2 (by rw [oI_t h0.1]) (toPc_eq ht) k
      · cases h
    · cases h
  all_goals (unfold s3 at h; cases h)
end W2f
end
section
/-! CALLS: a method's contract out of a run of the small machine -/
def jRM (d mc ms : Nat) : Room := { frames := d + 1, cells := mc, slots := ms, locals := 100 * (d + 1) }
def jP (D : va_G) (b : Nat) (a : List jV) (σ : jS) : Array Value → State → Prop := va_Pc (a.map (rv b)) (fun U => jR D b σ U U.heap ∧ (σ.1 = true → U.heap.size = b + σ.2.1))
def jQ (D : va_G) (b : Nat) (r : Option jV) (σ' : jS) (A : Nat → Prop) : Array Value → State → Outcome → State → Prop := fun _ st oc t => oc = .returned (r.map (rv b)) ∧ jR D b σ' t t.heap ∧ va_F A st t
def jws (m : Nat) : List Cond := Cond.code (mY m) (mB m) (mL m) (mR m) :: jW
def jMet (l : Launch) (D : va_G) (b : Nat) (A : Nat → Prop) (d m : Nat) (a : List jV) (σ : jS) (r : Option jV) (σ' : jS) : Prop := Met l (mY m) (jws m) (jRM d (σ'.2.1 - σ.2.1) (σ'.2.2.1 - σ.2.2.1)) (jP D b a σ) (jQ D b r σ' A) (σ'.2.1 - σ.2.1) (σ'.2.2.1 - σ.2.2.1) A
theorem jP_blind {D : va_G} {b : Nat} {a : List jV} {σ : jS} : FrameBlind (jP D b a σ) := fun a U g mk q => ⟨q.1, q.2.1.same (U := U.calling g mk a) rfl, q.2.2⟩
theorem jGood {m : Nat} (hm : m < 230) : GoodIn jW (jws m) := by
  intro w hw
  have h : w ∈ jW := by
    rcases List.mem_cons.mp hw with rfl | h
    · exact mT_code m hm
    · exact h
  exact ⟨h, good_of_word (List.mem_filter.mp h).2⟩
theorem jR.back {D : va_G} {b : Nat} {σ : jS} {s t : State} {H : Heap} (hW : s.WarmedH t.vm) (h : jR D b σ t H) (hX : jX s) : jR D b σ s H := by
  obtain ⟨ac, tys, h1, h2, h3, -⟩ := h
  exact ⟨ac, tys, va_K.moved hW.alike.symm h1, h2, h3, hX⟩
theorem jR.x {D : va_G} {b : Nat} {σ : jS} {s : State} {H : Heap} (h : jR D b σ s H) : jX s := by
  obtain ⟨ac, tys, h1, h2, h3, h⟩ := h
  exact h
theorem mT_cls {m : Nat} (hm : m < 230) : (mY m).cls = oN (mO m) ∧ mO m < 13 ∧ plainName (mY m).cls = true ∧ (mY m).cls ≠ "java/lang/invoke/MethodHandle" ∧ (mY m).cls ≠ "java/lang/invoke/VarHandle" ∧ (parseMethodDescriptor (mY m).desc).map (fun d => d.parameters.length) = some (mP m) ∧ mL m ≤ 20 := by
  have h1 := rng mT_own hm
  simp only [Bool.and_eq_true, decide_eq_true_eq] at h1
  have h2 := rng mT_plain h1.2
  have h3 := rng mT_par hm
  simp only [Bool.and_eq_true, decide_eq_true_eq] at h2 h3
  rw [← h1.1] at h2
  exact ⟨h1.1, h1.2, h2.1.1, h2.1.2, h2.2, h3.1, h3.2⟩
theorem popN_eq : ∀ {n : Nat} {S a r : List jV}, popN n S = some (a, r) → S = a.reverse ++ r ∧ a.length = n := by
  intro n
  induction n with
  | zero => intro S a r h; cases h; exact ⟨rfl, rfl⟩
  | succ n ih =>
    intro S a r h
    cases S with
    | nil => cases h
    | cons v S =>
      obtain ⟨⟨a', r'⟩, h1, h2⟩ := Option.map_eq_some_iff.mp h
      cases h2
      obtain ⟨h3, h4⟩ := ih h1
      refine ⟨?_, by simp [h4]⟩
      simp [h3]
section W5
variable {p : Program} {l : Launch} {e : Env} {R : Room} {s : State} {m : MethodId} {args : Array Value} {below : List Frame} {meth : Method} {c : Code} {H : Heap} {locs : List Loc} {cells slots : Nat} {Q : State → Prop} {cc : ByteArray} {b nL pc o : Nat} {ls : Array Slot} {D : va_G} {σ σ' : jS} {A : Nat → Prop} {S S' a : List jV} {m' d : Nat} {r : Option jV}
theorem w_size {g : JFrame} (hR : jR D b σ s H) (hN : σ.1 = true → s.heap.size + cells = b + σ.2.1 ∧ 0 < σ.2.1) (kk : (σ.1 = true → H.size = b + σ.2.1) → W p l e R s m args below meth c H locs cells slots Q g) : W p l e R s m args below meth c H locs cells slots Q g := by
  refine w_sz (fun z1 z2 => kk (fun ho => ?_))
  obtain ⟨h1, h2⟩ := hN ho
  have := jR_lt hR (k := σ.2.1 - 1) (by omega)
  omega
/-- behind a call -/
theorem w_back {Ar : Array Value} {st0 : List Value} (hR : jR D b σ s H) (hS : va_S A s.heap H locs)
    (hr : va_Run p l e R s m args below meth c H locs cells slots (σ'.2.1 - σ.2.1) (σ'.2.2.1 - σ.2.2.1) (F0 m pc ls st0) (S'.map (rv b)) (jQ D b r σ' A Ar) A)
    (kk : ∀ (H1 : Heap) (locs1 : List Loc), jR D b σ' s H1 → va_S A s.heap H1 locs1 → W p l e R s m args below meth c H1 locs1 (cells + (σ'.2.1 - σ.2.1)) (slots + (σ'.2.2.1 - σ.2.2.1)) Q (F0 m (pc + 3) ls ((r.toList ++ S').map (rv b)))) : W p l e R s m args below meth c H locs cells slots Q (F0 m pc ls st0) := by
  refine w_call hr (fun v st₀ t H1 L e1 e2 hW hq hL => ?_)
  obtain ⟨q1, q2, q3⟩ := hq
  have q1 : v = r.map (rv b) := Option.some.inj (by cases q1; rfl)
  subst q1
  rw [e2] at q2
  have h1 : (r.map (rv b)).toList ++ S'.map (rv b) = (r.toList ++ S').map (rv b) := by cases r <;> simp
  rw [h1]
  obtain ⟨z1, z2⟩ := q3
  rw [e1, e2] at z1 z2
  refine kk H1 (locs ++ L) (q2.back hW hR.x) ⟨Nat.le_trans hS.1 z1, fun q g1 g2 => ?_, fun q hq => ?_⟩
  · rw [z2 q (Nat.lt_of_lt_of_le g1 hS.1) g2]; exact hS.2.1 q g1 g2
  · rcases List.mem_append.mp hq with h | h
    · exact hS.2.2 q h
    · exact hL q h
theorem pre_of (hR : jR D b σ s H) (hz : σ.1 = true → H.size = b + σ.2.1) : ∀ U : State, U.heap = H → s.WarmedH U.vm → jP D b a σ (a.map (rv b)).toArray U := fun U hU hW => ⟨rfl, by rw [hU]; exact hR.warm hW, fun ho => by rw [hU]; exact hz ho⟩
theorem tS_use {n : Nat} (hts : ∀ w ∈ jW, w.before args s = true) (h : tS o n = some m') : m' < 230 ∧ (Cond.static (mY m')).before args s = true ∧ (Cond.initialized (mY m').cls).before args s = true ∧ ((Cond.methodLink (oN o) n (mY m')).before args s = true ∨ ((Cond.methodLink (oN o) n ⟨oN o, (mY m').name, (mY m').desc⟩).before args s = true ∧ (Cond.sameMethod (oN o) (mY m').cls (mY m').name (mY m').desc).before args s = true)) := by
  obtain ⟨⟨e0, e1, e2, e3, e4, e5, e6⟩, he, h1, h2⟩ := find_mem h
  have h3 := List.all_eq_true.mp tS_ok _ he
  simp only [Bool.and_eq_true, beq_iff_eq, decide_eq_true_eq, Bool.or_eq_true] at h1 h3
  obtain ⟨rfl, rfl⟩ := h1
  have h2 : e2 = m' := h2
  subst h2
  refine ⟨h3.1.2, hts _ (jW_mem h3.1.1.1.2 rfl), hts _ (jW_mem h3.1.1.2 rfl), ?_⟩
  have h4 := h3.1.1.1.1
  rcases h3.2 with h5 | h5
  · rw [if_pos h5] at h4
    exact Or.inl (hts _ (jW_mem h4 rfl))
  · by_cases h6 : e6 = 0
    · rw [if_pos h6] at h4
      exact Or.inl (hts _ (jW_mem h4 rfl))
    · rw [if_neg h6] at h4
      exact Or.inr ⟨hts _ (jW_mem h4 rfl), hts _ (jW_mem h5 rfl)⟩
theorem tI_use {n : Nat} (hts : ∀ w ∈ jW, w.before args s = true) (h : tI o n = some m') : m' < 230 ∧ (Cond.methodLink (oN o) n (mY m')).before args s = true ∧ (Cond.instanceMethod (mY m')).before args s = true ∧ (Cond.initialized (mY m').cls).before args s = true ∧ (mY m').name = "<init>" ∧ mR m' = none := by
  obtain ⟨⟨e0, e1, e2, e3, e4, e5⟩, he, h1, h2⟩ := find_mem h
  have h3 := List.all_eq_true.mp tI_ok _ he
  simp only [Bool.and_eq_true, beq_iff_eq, decide_eq_true_eq] at h1 h3
  obtain ⟨rfl, rfl⟩ := h1
  have h2 : e2 = m' := h2
  subst h2
  exact ⟨h3.1.1.2, hts _ (jW_mem h3.1.1.1.1.1 rfl), hts _ (jW_mem h3.1.1.1.1.2 rfl), hts _ (jW_mem h3.1.1.1.2 rfl), h3.1.2, h3.2⟩
theorem tJ_use {n : Nat} (hX : jX s) (hts : ∀ w ∈ jW, w.before args s = true) (h : tJ o n = some m') : m' < 230 ∧ va_Nw (.methodLinkNest (oN o) n (mY m') RX11) s ∧ (Cond.instanceMethod (mY m')).before args s = true ∧ (Cond.initialized (mY m').cls).before args s = true ∧ (mY m').name = "<init>" ∧ mR m' = none := by
  obtain ⟨⟨e0, e1, e2, e3, e4, e5⟩, he, h1, h2⟩ := find_mem h
  have h3 := List.all_eq_true.mp tJ_ok _ he
  have hX := hX.1 _ he
  simp only [Bool.and_eq_true, beq_iff_eq, decide_eq_true_eq] at h1 h3
  obtain ⟨rfl, rfl⟩ := h1
  have h2 : e2 = m' := h2
  subst h2
  exact ⟨h3.1.1.2, hX, hts _ (jW_mem h3.1.1.1.1.2 rfl), hts _ (jW_mem h3.1.1.1.2 rfl), h3.1.2, h3.2⟩
theorem tP_use {n : Nat} (hts : ∀ w ∈ jW, w.before args s = true) (h : tP o n = some m') : m' < 230 ∧ (Cond.methodLink (oN o) n (mY m')).before args s = true ∧ (Cond.instanceMethod (mY m')).before args s = true ∧ (Cond.initialized (mY m').cls).before args s = true ∧ (Cond.sameMethod (mY m').cls (mY m').cls (mY m').name (mY m').desc).before args s = true ∧ (Cond.superclass (oN o) (mY m').cls).before args s = true ∧ (mY m').name ≠ "<init>" := by
  obtain ⟨⟨e0, e1, e2, e3, e4, e5, e6, e7⟩, he, h1, h2⟩ := find_mem h
  have h3 := List.all_eq_true.mp tP_ok _ he
  simp only [Bool.and_eq_true, beq_iff_eq, decide_eq_true_eq, Bool.not_eq_true'] at h1 h3
  obtain ⟨rfl, rfl⟩ := h1
  have h2 : e2 = m' := h2
  subst h2
  refine ⟨h3.1.2, hts _ (jW_mem h3.1.1.1.1.1.1 rfl), hts _ (jW_mem h3.1.1.1.1.1.2 rfl), hts _ (jW_mem h3.1.1.1.1.2 rfl), hts _ (jW_mem h3.1.1.1.2 rfl), hts _ (jW_mem h3.1.1.2 rfl), fun q => ?_⟩
  have h4 := h3.2
  rw [q] at h4
  revert h4
  decide
theorem callB {n : Nat} (hts : ∀ w ∈ jW, w.before args s = true) (hm : m' < 230) (hini : (Cond.initialized (mY m').cls).before args s = true) (hl : (Cond.methodLink (oN o) n (mY m')).before args s = true) {mc ms : Nat} (hf : d + 2 ≤ R.frames) (hlo : 100 * (d + 2) ≤ R.locals) : CallB R s args (oN o) n (mY m') (mB m') (mL m') (mR m') (jws m') (jRM d mc ms) mc ms (mP m') := by
  obtain ⟨-, -, -, h1, h2, h3, h4⟩ := mT_cls hm
  exact callB_of _ hts (jGood hm) rfl rfl rfl hini hl ⟨h1, h2, h3⟩ ⟨hf, by show 8 + (mL m' + 11) + 100 * (d + 1) ≤ _; omega⟩
end W5
end
section
/-- calls that name another method than they run: class, entry, receiver, method run, places of the words, 1 abstract | 2 with a body, which is named -/
def tWl : List (Nat × Nat × Nat × Nat × Nat × Nat × Nat × Nat × Nat × Nat) := [(1, 20, 5, 54, 581, 601, 583, 1, 1, 0), (1, 20, 7, 76, 581, 605, 583, 1, 1, 0), (1, 20, 0, 2, 581, 584, 583, 1, 1, 0), (1, 20, 9, 105, 581, 610, 583, 1, 1, 0),
  (1, 20, 2, 15, 581, 594, 583, 1, 1, 0), (1, 35, 5, 55, 614, 626, 616, 1, 2, 0), (1, 35, 7, 55, 614, 627, 616, 1, 2, 0), (1, 35, 0, 3, 614, 617, 616, 1, 2, 0),
  (1, 35, 9, 106, 614, 628, 616, 1, 2, 0), (1, 35, 2, 106, 614, 623, 616, 1, 2, 0), (1, 48, 5, 53, 503, 512, 505, 1, 0, 0), (1, 48, 7, 75, 503, 515, 505, 1, 0, 0),
  (1, 48, 0, 1, 503, 506, 505, 1, 0, 0), (1, 48, 9, 104, 503, 518, 505, 1, 0, 0), (1, 48, 2, 14, 503, 509, 505, 1, 0, 0), (6, 34, 7, 78, 920, 929, 923, 2, 57, 921),
  (6, 34, 0, 4, 920, 924, 923, 2, 57, 921), (10, 29, 2, 16, 959, 1362, 1358, 2, 107, 944), (11, 281, 5, 53, 900, 512, 505, 1, 0, 0), (11, 281, 7, 75, 900, 515, 505, 1, 0, 0),
  (11, 281, 0, 1, 900, 506, 505, 1, 0, 0), (11, 281, 9, 104, 900, 518, 505, 1, 0, 0), (11, 281, 2, 14, 900, 509, 505, 1, 0, 0), (11, 288, 5, 56, 912, 948, 914, 2, 43, 913),
  (11, 288, 7, 77, 912, 949, 914, 2, 43, 913), (11, 288, 0, 56, 912, 915, 914, 2, 43, 913), (11, 288, 9, 107, 912, 953, 914, 2, 43, 913), (11, 288, 2, 16, 912, 939, 914, 2, 43, 913),
  (11, 292, 5, 57, 955, 1364, 1357, 2, 44, 936), (11, 292, 7, 78, 955, 1365, 1357, 2, 44, 936), (11, 292, 0, 4, 955, 1360, 1357, 2, 44, 936), (11, 292, 9, 108, 955, 1366, 1357, 2, 44, 936),
  (11, 292, 2, 108, 955, 1361, 1357, 2, 44, 936)]

def wX (k r : Nat) : MethodName := if k = 1 then absM.getD r ⟨"", "", ""⟩ else mY r
theorem tW_ok : tWl.all (fun e => decide (lw_tbl[e.2.2.2.2.1]? = some (.methodLink (oN e.1) e.2.1 (wX e.2.2.2.2.2.2.2.1 e.2.2.2.2.2.2.2.2.1))) && decide (lw_tbl[e.2.2.2.2.2.1]? = some (.selects (cN e.2.2.1) (wX e.2.2.2.2.2.2.2.1 e.2.2.2.2.2.2.2.2.1) (mY e.2.2.2.1))) && decide (lw_tbl[e.2.2.2.2.2.2.1]? = some (.sameMethod (wX e.2.2.2.2.2.2.2.1 e.2.2.2.2.2.2.2.2.1).cls (wX e.2.2.2.2.2.2.2.1 e.2.2.2.2.2.2.2.2.1).cls (wX e.2.2.2.2.2.2.2.1 e.2.2.2.2.2.2.2.2.1).name (wX e.2.2.2.2.2.2.2.1 e.2.2.2.2.2.2.2.2.1).desc))) = true := by decide +kernel
theorem tW_ok2 : tWl.all (fun e => decide ((parseMethodDescriptor (wX e.2.2.2.2.2.2.2.1 e.2.2.2.2.2.2.2.2.1).desc).map (fun d => d.parameters.length) = some (mP e.2.2.2.1)) && decide ((wX e.2.2.2.2.2.2.2.1 e.2.2.2.2.2.2.2.2.1).cls ≠ "java/lang/invoke/MethodHandle") && decide ((wX e.2.2.2.2.2.2.2.1 e.2.2.2.2.2.2.2.2.1).cls ≠ "java/lang/invoke/VarHandle") && ((e.2.2.2.2.2.2.2.1 == 1 && decide (e.2.2.2.2.2.2.2.2.1 < 3)) || (e.2.2.2.2.2.2.2.1 == 2 && decide (e.2.2.2.2.2.2.2.2.1 < 230) && decide (lw_tbl[e.2.2.2.2.2.2.2.2.2]? = some (.instanceMethod (mY e.2.2.2.2.2.2.2.2.1)))))) = true := by decide +kernel
theorem tV_ok2 : tVl.all (fun e => e.2.2.2.2.2.2.2.2.2.1 == 0 || tWl.any (fun w => w.1 == e.1 && w.2.1 == e.2.1 && w.2.2.1 == e.2.2.2.1 && w.2.2.2.1 == e.2.2.2.2.1)) = true := by decide +kernel
theorem tV_np : tVl.all (fun e => tVl.all (fun f => !(e.1 == f.1) || !(e.2.1 == f.2.1) || e.2.2.1 == f.2.2.1)) = true := by decide +kernel

section W5v
variable {p : Program} {l : Launch} {e : Env} {R : Room} {s : State} {m : MethodId} {args : Array Value} {below : List Frame} {meth : Method} {c : Code} {H : Heap} {locs : List Loc} {cells slots : Nat} {Q : State → Prop} {cc : ByteArray} {b nL pc o : Nat} {ls : Array Slot} {D : va_G} {σ σ' : jS} {A : Nat → Prop} {S S' a : List jV} {m' d : Nat} {r : Option jV}
/-- what a virtual call's row says: the method itself, or one that overrides or inherits -/
theorem tV_use {n ci : Nat} (hX : jX s) (hts : ∀ w ∈ jW, w.before args s = true) (h : tV o n ci = some m') : m' < 230 ∧ ci < 12 ∧ (Cond.instanceMethod (mY m')).before args s = true ∧ (Cond.initialized (mY m').cls).before args s = true ∧
    (((Cond.methodLink (oN o) n (mY m')).before args s = true ∧ (Cond.selects (cN ci) (mY m') (mY m')).before args s = true) ∨
     ∃ x : MethodName, (Cond.methodLink (oN o) n x).before args s = true ∧ (Cond.selects (cN ci) x (mY m')).before args s = true ∧ (Cond.sameMethod x.cls x.cls x.name x.desc).before args s = true ∧ va_Decl s x ∧ x.cls ≠ "java/lang/invoke/MethodHandle" ∧ x.cls ≠ "java/lang/invoke/VarHandle" ∧ (parseMethodDescriptor x.desc).map (fun d => d.parameters.length) = some (mP m')) := by
  obtain ⟨⟨e0, e1, e2, e3, e4, e5, e6, e7, e8, e9, e10, e11⟩, he, h1, h2⟩ := find_mem h
  have h3 := List.all_eq_true.mp tV_ok0 _ he
  have h4 := List.all_eq_true.mp tV_ok1 _ he
  have h5 := List.all_eq_true.mp tV_ok2 _ he
  simp only [Bool.and_eq_true, beq_iff_eq, decide_eq_true_eq, Bool.or_eq_true, Bool.not_eq_true'] at h1 h3 h4 h5
  obtain ⟨⟨rfl, rfl⟩, rfl⟩ := h1
  have h2 : e4 = m' := h2
  subst h2
  refine ⟨h3.1.1.2, h3.2, hts _ (jW_mem h3.1.1.1.1 rfl), hts _ (jW_mem h3.1.1.1.2 rfl), ?_⟩
  rcases h5 with h5 | h5
  · left
    rcases h4 with h4 | h4
    · rw [h5] at h4; cases h4
    · exact ⟨hts _ (jW_mem h4.1.1 rfl), hts _ (jW_mem h4.1.2 rfl)⟩
  · right
    obtain ⟨⟨w0, w1, w2, w3, w4, w5, w6, w7, w8, w9⟩, hw, hq⟩ := List.any_eq_true.mp h5
    have g1 := List.all_eq_true.mp tW_ok _ hw
    have g2 := List.all_eq_true.mp tW_ok2 _ hw
    simp only [Bool.and_eq_true, beq_iff_eq, decide_eq_true_eq, Bool.or_eq_true] at hq g1 g2
    obtain ⟨⟨⟨rfl, rfl⟩, rfl⟩, rfl⟩ := hq
    refine ⟨wX w7 w8, hts _ (jW_mem g1.1.1 rfl), hts _ (jW_mem g1.1.2 rfl), hts _ (jW_mem g1.2 rfl), ?_, g2.1.1.2, g2.1.2, g2.1.1.1⟩
    rcases g2.2 with ⟨k1, k2⟩ | ⟨⟨k1, k2⟩, k3⟩
    · subst k1
      have k4 : wX 1 w8 ∈ absM := by
        rcases (show w8 = 0 ∨ w8 = 1 ∨ w8 = 2 by omega) with rfl | rfl | rfl <;> decide
      exact va_Decl.abs (hX.2.1 _ k4)
    · subst k1
      exact va_Decl.of (hts _ (jW_mem k3 rfl)) (hts _ (mT_code w8 k2))
theorem par_len {y : MethodName} {k : Nat} (h : (parseMethodDescriptor y.desc).map (fun d => d.parameters.length) = some k) : ∀ sig, parseMethodDescriptor y.desc = some sig → k = sig.parameters.length := by
  intro sig hs
  rw [hs] at h
  exact (Option.some.inj h).symm
theorem rev_map {b : Nat} {a r : List jV} : (a.reverse ++ r).map (rv b) = (a.map (rv b)).reverse ++ r.map (rv b) := by simp
set_option maxHeartbeats 1000000 in
theorem w5 {i : Instr} (hx : p.tables.exec = Jvm.exec) (hb : c.code = cc) (hml : c.maxLocals = ls.size) (hts : ∀ w ∈ jW, w.before args s = true) (hown : s.vm.findClass (oN o) = some m.cls) (hd : decode cc pc = .ok (i, 3)) (hR : jR D b σ s H) (hS : va_S A s.heap H locs) (hN : σ.1 = true → s.heap.size + cells = b + σ.2.1 ∧ 0 < σ.2.1) (hf : d + 2 ≤ R.frames) (hlo : 100 * (d + 2) ≤ R.locals) (hc : cells + (σ'.2.1 - σ.2.1) ≤ R.cells) (hs : slots + (σ'.2.2.1 - σ.2.2.1) ≤ R.slots)
    (h : s5 o i S σ = some (m', a, S')) (hM : m' < 230 → jMet l D b A d m' a σ r σ')
    (hup : ∀ n, tS o n = some m' → (Cond.methodLink (oN o) n ⟨oN o, (mY m').name, (mY m').desc⟩).before args s = true → (Cond.sameMethod (oN o) (mY m').cls (mY m').name (mY m').desc).before args s = true → decode cc pc = .ok (.invokestatic n, 3) → a.length = mP m' → S = a.reverse ++ S' → szS S' ≤ 8 → (σ.1 = true → H.size = b + σ.2.1) → va_Run p l e R s m args below meth c H locs cells slots (σ'.2.1 - σ.2.1) (σ'.2.2.1 - σ.2.2.1) (F0 m pc ls (S.map (rv b))) (S'.map (rv b)) (jQ D b r σ' A (a.map (rv b)).toArray) A)
    (kk : ∀ (H1 : Heap) (locs1 : List Loc), jR D b σ' s H1 → va_S A s.heap H1 locs1 → W p l e R s m args below meth c H1 locs1 (cells + (σ'.2.1 - σ.2.1)) (slots + (σ'.2.2.1 - σ.2.2.1)) Q (F0 m (pc + 3) ls ((r.toList ++ S').map (rv b)))) : W p l e R s m args below meth c H locs cells slots Q (F0 m pc ls (S.map (rv b))) := by
  refine w_size hR hN (fun hz => ?_)
  cases i
  case invokestatic n =>
    unfold s5 at h
    dsimp only at h
    obtain ⟨m1, h1, h⟩ := Option.bind_eq_some_iff.mp h
    obtain ⟨⟨a1, r1⟩, h2, h⟩ := Option.bind_eq_some_iff.mp h
    dsimp only at h
    split at h <;> cases h
    rename_i h3
    obtain ⟨e1, e2⟩ := popN_eq h2
    obtain ⟨g1, g2, g3, g4⟩ := tS_use hts h1
    rcases g4 with g4 | ⟨g4, g5⟩
    · refine w_back (Ar := (a.map (rv b)).toArray) hR hS ?_ kk
      exact va_runS (As := a.map (rv b)) (rest := S'.map (rv b)) ⟨hx, hb, hml, hown, hts⟩ (hM g1) ⟨callB hts g1 g3 g4 hf hlo, g2⟩ ⟨jP_blind, pre_of hR hz⟩ rfl (by simp [e2]) rfl (by rw [e1]; exact rev_map) (lv_room (by rw [sz_rv]; exact h3)) hd ⟨hc, hs⟩
    · exact w_back hR hS (hup n h1 g4 g5 hd e2 e1 h3 hz) kk
  case invokespecial n =>
    unfold s5 at h
    dsimp only at h
    split at h
    · rename_i m1 hm1
      obtain ⟨⟨a1, r1⟩, h2, h⟩ := Option.bind_eq_some_iff.mp h
      obtain ⟨e1, e2⟩ := popN_eq h2
      dsimp only at h
      split at h
      · rename_i k0 r0
        split at h <;> cases h
        rename_i h3
        simp only [Bool.and_eq_true, decide_eq_true_eq] at h3
        have hst : S.map (rv b) = (a1.map (rv b)).reverse ++ .ref (b + k0) :: S'.map (rv b) := by rw [e1]; simp [rv]
        refine w_back (Ar := (Value.ref (b + k0) :: a1.map (rv b)).toArray) hR hS ?_ kk
        cases hI : tI o n with
        | some m2 =>
          rw [hI] at hm1
          cases hm1
          obtain ⟨g1, g2, g3, g4, g5, g6⟩ := tI_use hts hI
          have hcb := callB (R := R) (s := s) (args := args) (mc := σ'.2.1 - σ.2.1) (ms := σ'.2.2.1 - σ.2.2.1) hts g1 g4 g2 hf hlo
          rw [g6] at hcb
          exact va_runI (As := a1.map (rv b)) (rest := S'.map (rv b)) ⟨hx, hb, hml, hown, hts⟩ (hM g1) ⟨hcb, g5, g3⟩ ⟨jP_blind, pre_of (a := .inr (.inr (some k0)) :: a1) hR hz⟩ rfl (by simp [e2]) rfl hst (lv_room (by rw [sz_rv]; exact h3.1.1)) hd ⟨hc, hs⟩
        | none =>
          rw [hI] at hm1
          cases hJ : tJ o n with
          | some m2 =>
            rw [hJ] at hm1
            cases hm1
            obtain ⟨g1, g2, g3, g4, g5, g6⟩ := tJ_use hR.x hts hJ
            obtain ⟨-, -, -, k1, k2, k3, k4⟩ := mT_cls g1
            have hcn : va_CN R s args (oN o) n (mY m') RX11 (mB m') (mL m') (mR m') (jws m') (jRM d (σ'.2.1 - σ.2.1) (σ'.2.2.1 - σ.2.2.1)) (σ'.2.1 - σ.2.1) (σ'.2.2.1 - σ.2.2.1) (mP m') := va_cnB _ hts (jGood g1) rfl rfl rfl g2 g4 ⟨k1, k2, k3⟩ ⟨hf, by show 8 + (mL m' + 11) + 100 * (d + 1) ≤ _; omega⟩
            rw [g6] at hcn
            exact va_runIN (As := a1.map (rv b)) (rest := S'.map (rv b)) ⟨hx, hb, hml, hown, hts⟩ (hM g1) ⟨hcn, g5, g3⟩ ⟨jP_blind, pre_of (a := .inr (.inr (some k0)) :: a1) hR hz⟩ rfl (by simp [e2]) rfl hst (lv_room (by rw [sz_rv]; exact h3.1.1)) hd ⟨hc, hs⟩
          | none =>
            rw [hJ] at hm1
            have hP : tP o n = some m' := hm1
            obtain ⟨g1, g2, g3, g4, g5, g6, g7⟩ := tP_use hts hP
            obtain ⟨-, -, -, -, -, k3, k4⟩ := mT_cls g1
            have hcs : va_CS R s args (oN o) n (mY m') (mB m') (mL m') (mR m') (jws m') (jRM d (σ'.2.1 - σ.2.1) (σ'.2.2.1 - σ.2.2.1)) (σ'.2.1 - σ.2.1) (σ'.2.2.1 - σ.2.2.1) (mP m') :=
              ⟨⟨rfl, rfl, hf, by show 8 + (mL m' + 11) + 100 * (d + 1) ≤ _; omega, pay_in hts (jGood g1), List.mem_cons_self⟩, g2, g5, g6, g3, g4, hts _ (mT_code m' g1), g7, par_len k3⟩
            have hsk : σ.2.2.2.1 k0 = ((σ.2.2.2.1 k0).1, 0) := by
              obtain ⟨ac, tys, hK, hT, hP, hX⟩ := hR
              rcases hT k0 h3.1.2 with ⟨-, z⟩ | ⟨z, -⟩
              · rw [← z]
              · have := h3.2; omega
            have hrec : ∃ cellB : Cell, H[b + k0]? = some cellB ∧ cellB.vm.isStatics = false ∧ s.vm.findClass (cN (σ.2.2.2.1 k0).1) = some cellB.cls := by
              obtain ⟨ac, tys, hK, hT, hP, hX⟩ := hR
              exact va_recv hK hP (ci := (σ.2.2.2.1 k0).1) (q0 := k0) (cl_at h3.2) (by rw [wld_at h3.1.2, wE_obj hsk h3.2])
            have hat : ClassAt s (cN (σ.2.2.2.1 k0).1) (D.1 (σ.2.2.2.1 k0).1) := by
              obtain ⟨ac, tys, hK, hT, hP, hX⟩ := hR
              exact (hK.1 _ _ (cl_at h3.2)).2
            exact va_runSU (As := a1.map (rv b)) (rest := S'.map (rv b)) hat ⟨hx, hb, hml, hown, hts⟩ (hM g1) hcs ⟨jP_blind, hrec, pre_of (a := .inr (.inr (some k0)) :: a1) hR hz⟩ rfl (by simp [e2]) rfl hst (lv_room (by rw [sz_rv]; exact h3.1.1)) hd ⟨hc, hs⟩
      · cases h
    · cases h
  case invokevirtual n =>
    unfold s5 at h
    dsimp only at h
    obtain ⟨np, h1, h⟩ := Option.bind_eq_some_iff.mp h
    obtain ⟨⟨a1, r1⟩, h2, h⟩ := Option.bind_eq_some_iff.mp h
    obtain ⟨e1, e2⟩ := popN_eq h2
    dsimp only at h
    split at h
    · rename_i k0 r0
      split at h
      · rename_i h3
        simp only [Bool.and_eq_true, decide_eq_true_eq] at h3
        obtain ⟨m2, h4, e3⟩ := Option.map_eq_some_iff.mp h
        cases e3
        have hst : S.map (rv b) = (a1.map (rv b)).reverse ++ .ref (b + k0) :: S'.map (rv b) := by rw [e1]; simp [rv]
        obtain ⟨g1, g2, g3, g4, g5⟩ := tV_use hR.x hts h4
        have hnp : np = mP m' := by
          obtain ⟨f1, hf1, q1, q2⟩ := find_mem h1
          obtain ⟨f2, hf2, q3, q4⟩ := find_mem h4
          have q5 := List.all_eq_true.mp (List.all_eq_true.mp tV_np f1 hf1) f2 hf2
          have q6 := List.all_eq_true.mp tV_ok0 f2 hf2
          simp only [Bool.and_eq_true, beq_iff_eq, decide_eq_true_eq, Bool.or_eq_true, Bool.not_eq_true'] at q1 q3 q5 q6
          rw [q1.1, q1.2, q3.1.1, q3.1.2] at q5
          simp at q5
          rw [← q2, q5, ← q4]
          exact q6.1.2.symm
        subst hnp
        have hrec : ∃ cellB : Cell, H[b + k0]? = some cellB ∧ cellB.vm.isStatics = false ∧ s.vm.findClass (cN (σ.2.2.2.1 k0).1) = some cellB.cls := by
          obtain ⟨ac, tys, hK, hT, hP, hX⟩ := hR
          have hsk : σ.2.2.2.1 k0 = ((σ.2.2.2.1 k0).1, 0) := by rw [← h3.2]
          exact va_recv hK hP (ci := (σ.2.2.2.1 k0).1) (q0 := k0) (cl_at g2) (by rw [wld_at h3.1.2, wE_obj hsk g2])
        refine w_back (Ar := (Value.ref (b + k0) :: a1.map (rv b)).toArray) hR hS ?_ kk
        rcases g5 with ⟨g5, g6⟩ | ⟨x, g5, g6, g7, g8, g9, g10, g11⟩
        · exact va_runV (As := a1.map (rv b)) (rest := S'.map (rv b)) ⟨hx, hb, hml, hown, hts⟩ (hM g1) ⟨callB hts g1 g4 g5 hf hlo, g3, g6⟩ ⟨jP_blind, hrec, pre_of (a := .inr (.inr (some k0)) :: a1) hR hz⟩ rfl (by simp [e2]) rfl hst (lv_room (by rw [sz_rv]; exact h3.1.1)) hd ⟨hc, hs⟩
        · obtain ⟨-, -, -, -, -, k3, k4⟩ := mT_cls g1
          have hcu : va_CU R s args (oN o) (cN (σ.2.2.2.1 k0).1) x.cls n x (mY m') (mB m') (mL m') (mR m') (jws m') (jRM d (σ'.2.1 - σ.2.1) (σ'.2.2.1 - σ.2.2.1)) (σ'.2.1 - σ.2.1) (σ'.2.2.1 - σ.2.2.1) (mP m') :=
            ⟨⟨rfl, rfl, hf, by show 8 + (mL m' + 11) + 100 * (d + 1) ≤ _; omega, pay_in hts (jGood g1), List.mem_cons_self⟩, hts _ (mT_code m' g1), g4, ⟨g9, g10⟩, par_len g11, g5, g7, g8, g6, g3⟩
          exact va_runU (As := a1.map (rv b)) (rest := S'.map (rv b)) ⟨hx, hb, hml, hown, hts⟩ (hM g1) hcu ⟨jP_blind, hrec, pre_of (a := .inr (.inr (some k0)) :: a1) hR hz⟩ rfl (by simp [e2]) rfl hst (lv_room (by rw [sz_rv]; exact h3.1.1)) hd ⟨hc, hs⟩
      · cases h
    · cases h
  all_goals (unfold s5 at h; cases h)
end W5v
end
section
/-! THE SMALL MACHINE'S RUNS ARE THE REAL ONE'S -/
theorem s2_mono {o : Nat} {init : Bool} {i : Instr} {S S' : List jV} {σ σ' : jS} (h : s2 o init i S σ = some (S', σ')) : σ.2.1 ≤ σ'.2.1 ∧ σ.2.2.1 ≤ σ'.2.2.1 ∧ σ'.1 = σ.1 := by
  cases i
  case new n =>
    unfold s2 at h
    dsimp only at h
    obtain ⟨ci, ht, h⟩ := Option.bind_eq_some_iff.mp h
    split at h <;> cases h
    rename_i hc1
    simp only [Bool.and_eq_true] at hc1
    exact ⟨Nat.le_add_right _ _, Nat.le_add_right _ _, hc1.1.symm⟩
  case newarray t =>
    unfold s2 at h
    dsimp only at h
    split at h
    · split at h <;> cases h
      rename_i hc1
      simp only [Bool.and_eq_true] at hc1
      exact ⟨Nat.le_add_right _ _, Nat.le_add_right _ _, hc1.1.1.1.1.symm⟩
    · cases h
  case anewarray n =>
    unfold s2 at h
    dsimp only at h
    split at h
    · split at h <;> cases h
      rename_i hc1
      simp only [Bool.and_eq_true] at hc1
      exact ⟨Nat.le_add_right _ _, Nat.le_add_right _ _, hc1.1.1.1.symm⟩
    · cases h
  case instanceof n =>
    unfold s2 at h
    dsimp only at h
    split at h
    · split at h
      · obtain ⟨r, hr, e1⟩ := Option.map_eq_some_iff.mp h
        cases e1
        exact ⟨Nat.le_refl _, Nat.le_refl _, rfl⟩
      · cases h
    · cases h
  all_goals (unfold s2 at h; dsimp only at h; repeat' (first | cases h | split at h))
  all_goals exact ⟨Nat.le_refl _, Nat.le_refl _, rfl⟩
theorem run_mono : ∀ (f d m pc : Nat) (L : jL) (S : List jV) (σ : jS) (r : Option jV) (σ' : jS), run f d m pc L S σ = some (r, σ') → σ.2.1 ≤ σ'.2.1 ∧ σ.2.2.1 ≤ σ'.2.2.1 ∧ σ'.1 = σ.1 := by
  intro f
  induction f with
  | zero => intro d m pc L S σ r σ' h; simp [run] at h
  | succ f ih =>
    intro d m pc L S σ r σ' h
    unfold run at h
    split at h <;> try (cases h; done)
    split at h
    · split at h
      · exact ih _ _ _ _ _ _ _ _ h
      · split at h
        · rename_i h2
          obtain ⟨a1, a2, a3⟩ := s2_mono h2
          obtain ⟨b1, b2, b3⟩ := ih _ _ _ _ _ _ _ _ h
          exact ⟨Nat.le_trans a1 b1, Nat.le_trans a2 b2, b3.trans a3⟩
        · split at h
          · exact ih _ _ _ _ _ _ _ _ h
          · split at h
            · cases h; exact ⟨Nat.le_refl _, Nat.le_refl _, rfl⟩
            · split at h
              · split at h
                · cases h
                · split at h
                  · rename_i h6
                    split at h6
                    · obtain ⟨a1, a2, a3⟩ := ih _ _ _ _ _ _ _ _ h6
                      obtain ⟨b1, b2, b3⟩ := ih _ _ _ _ _ _ _ _ h
                      exact ⟨Nat.le_trans a1 b1, Nat.le_trans a2 b2, b3.trans a3⟩
                    · cases h6
                  · cases h
              · cases h
    · cases h
theorem sz_cons (v : jV) (a : List jV) : szS (v :: a) = (if isL v then 2 else 1) + szS a := by simp [szS]
theorem lgl_len (b : Nat) : ∀ a : List jV, (lg_sl (a.map (rv b))).length = szS a := by
  intro a
  induction a with
  | nil => rfl
  | cons v a ih =>
    rw [sz_cons, ← ih]
    rcases v with z | z | (_ | k) <;> simp [lg_sl, rv, isL, Value.category] <;> omega
theorem flat_len : ∀ a : List jV, (a.flatMap (fun v => if isL v then [some v, none] else [some v])).length = szS a := by
  intro a
  induction a with
  | nil => rfl
  | cons v a ih =>
    rw [List.flatMap_cons, List.length_append, ih, sz_cons]
    split <;> rfl
theorem lget_z {x : Option jV} {l : jL} : lget (x :: l) 0 = x := by cases x <;> rfl
theorem lget_s {x : Option jV} {l : jL} {i : Nat} : lget (x :: l) (i + 1) = lget l i := by simp [lget]
theorem lget_none {n i : Nat} {v : jV} : lget (List.replicate n none) i = some v → False := by
  intro h
  unfold lget at h
  rw [List.getElem?_replicate] at h
  split at h <;> cases h
theorem ini_get (b : Nat) : ∀ (a : List jV) (n i j : Nat) (v : jV), lget (a.flatMap (fun v => if isL v then [some v, none] else [some v]) ++ List.replicate n none) i = some v → (j + i, rv b v) ∈ lv_args j (a.map (rv b)) := by
  intro a
  induction a with
  | nil => intro n i j v h; exact absurd h (fun h => lget_none h)
  | cons w a ih =>
    intro n i j v h
    rw [List.flatMap_cons, List.append_assoc] at h
    rw [List.map_cons]
    unfold lv_args
    rw [rv_cat]
    cases hw : isL w
    · rw [hw] at h
      cases i with
      | zero => cases lget_z.symm.trans h; exact List.mem_cons_self
      | succ i =>
        have h : lget _ (i + 1) = some v := h
        rw [if_neg (by decide)] at h
        have h3 := ih n i (j + 1) v (lget_s.symm.trans h)
        rw [show j + 1 + i = j + (i + 1) by omega] at h3
        exact List.mem_cons_of_mem _ h3
    · rw [hw] at h
      rw [if_pos rfl] at h
      cases i with
      | zero => cases lget_z.symm.trans h; exact List.mem_cons_self
      | succ i =>
        have h := lget_s.symm.trans h
        cases i with
        | zero => cases lget_z.symm.trans h
        | succ i =>
          have h3 := ih n i (j + 2) v (lget_s.symm.trans h)
          rw [show j + 2 + i = j + (i + 1 + 1) by omega] at h3
          exact List.mem_cons_of_mem _ h3
theorem ini_ls {b n : Nat} {a : List jV} {ls : Array Slot} (hz : szS a ≤ n) (hl : lv_has ls n (lv_args 0 (a.map (rv b)))) : jLs b n ls (iniL n a) := by
  refine ⟨?_, hl.1, hl.2.1, fun i v hv => ?_⟩
  · unfold iniL
    rw [List.length_append, List.length_replicate, flat_len]
    omega
  · have h := ini_get b a _ i 0 v hv
    rw [Nat.zero_add] at h
    exact hl.2.2 _ h
section SND
variable {p : Program} {l : Launch} {e : Env} {s : State} {mi : MethodId} {args : Array Value} {below : List Frame} {meth : Method} {c : Code} {D : va_G} {b : Nat} {A : Nat → Prop} {m d mc ms : Nat} {r : Option jV} {σ' : jS}
/-- what is to be shown of a call of a static method that its class inherits (below) -/
def upOk (l : Launch) : Prop := ∀ {p : Program} {e : Env} {R : Room} {s : State} {m : MethodId} {args : Array Value} {below : List Frame} {meth : Method} {c : Code} {H : Heap} {locs : List Loc} {cells slots : Nat} {cc : ByteArray} {pc o n d m' mc ms : Nat} {ls : Array Slot} {As rest : List Value} {Pc : Array Value → State → Prop} {Qc : Array Value → State → Outcome → State → Prop} {free : Addr → Prop},
  p.tables.exec = Jvm.exec → c.code = cc → c.maxLocals = ls.size → (∀ w ∈ jW, w.before args s = true) → s.vm.findClass (oN o) = some m.cls → decode cc pc = .ok (.invokestatic n, 3) → d + 2 ≤ R.frames → 100 * (d + 2) ≤ R.locals → cells + mc ≤ R.cells → slots + ms ≤ R.slots → m' < 230 →
  (Cond.methodLink (oN o) n ⟨oN o, (mY m').name, (mY m').desc⟩).before args s = true → (Cond.sameMethod (oN o) (mY m').cls (mY m').name (mY m').desc).before args s = true → (Cond.static (mY m')).before args s = true → (Cond.initialized (mY m').cls).before args s = true →
  Met l (mY m') (jws m') (jRM d mc ms) Pc Qc mc ms free → PreS s H Pc As → As.length = mP m' → (rest.map fun v => v.category).sum ≤ 8 →
  va_Run p l e R s m args below meth c H locs cells slots mc ms (F0 m pc ls (As.reverse ++ rest)) rest (Qc As.toArray) free
set_option maxHeartbeats 1000000 in
theorem soundF (hu : upOk l) (hx : p.tables.exec = Jvm.exec) (hb : c.code = mB m) (hml : c.maxLocals = mL m) (hr : meth.sig.returnType = mR m) (hlocks : meth.locks = false) (hts : ∀ w ∈ jW, w.before args s = true) (hown : s.vm.findClass (oN (mO m)) = some mi.cls) (hin : isInit m = true → meth.name = "<init>")
    (hA : ∀ k, k < σ'.2.1 → A (b + k))
    (hC : ∀ d', d = d' + 1 → ∀ (m' : Nat) (a : List jV) (σ : jS) (r : Option jV) (σ' : jS), m' < 230 → szS a ≤ mL m' → (∃ f, run f d' m' 0 (iniL (mL m') a) [] σ = some (r, σ')) → (∀ k, k < σ'.2.1 → A (b + k)) → (σ.1 = true → 0 < σ.2.1) → jMet l D b A d' m' a σ r σ') :
    ∀ (f pc : Nat) (L : jL) (S : List jV) (σ : jS), run f d m pc L S σ = some (r, σ') → ∀ (ls : Array Slot) (H : Heap) (locs : List Loc) (cells slots : Nat), jLs b (mL m) ls L → jR D b σ s H → va_S A s.heap H locs → (σ.1 = true → s.heap.size + cells = b + σ.2.1 ∧ 0 < σ.2.1) → cells + (σ'.2.1 - σ.2.1) = mc → slots + (σ'.2.2.1 - σ.2.2.1) = ms →
      W p l e (jRM d mc ms) s mi args below meth c H locs cells slots (MQ below (jQ D b r σ' A) args s mc ms A) (F0 mi pc ls (S.map (rv b))) := by
  intro f
  induction f with
  | zero => intro pc L S σ h; simp [run] at h
  | succ f ih =>
    intro pc L S σ h ls H locs cells slots hl hR hS hN hmc hms
    have hmono := run_mono _ _ _ _ _ _ _ _ _ h
    have hml2 : c.maxLocals = ls.size := by rw [hml, hl.2.1]
    have hfr : 1 ≤ (jRM d mc ms).frames := Nat.le_add_left 1 d
    have hlo : 100 ≤ (jRM d mc ms).locals := by show 100 ≤ 100 * (d + 1); omega
    unfold run at h
    split at h <;> try (cases h; done)
    rename_i i len hd
    split at h
    case isFalse => cases h
    rename_i hlen
    cases h1 : s1 (mO m) i L S with
    | some q =>
      obtain ⟨L1, S1⟩ := q
      rw [h1] at h
      dsimp only at h
      have hlen2 : len = ilen i := by
        unfold lenOk at hlen
        split at hlen
        · cases h1
        · cases h1
        · exact beq_iff_eq.mp hlen
      subst hlen2
      exact w1 hx hb hts hown hd hl h1 (fun ls' hl' => ih _ _ _ _ h ls' H locs cells slots hl' hR hS hN hmc hms)
    | none =>
      rw [h1] at h
      dsimp only at h
      cases h2 : s2 (mO m) (isInit m) i S σ with
      | some q =>
        obtain ⟨S1, σ1⟩ := q
        rw [h2] at h
        dsimp only at h
        have hlen2 : len = ilen i := by
          unfold lenOk at hlen
          split at hlen
          · cases h2
          · cases h2
          · exact beq_iff_eq.mp hlen
        subst hlen2
        obtain ⟨a1, a2, a3⟩ := s2_mono h2
        obtain ⟨b1, b2, b3⟩ := run_mono _ _ _ _ _ _ _ _ _ h
        refine w2 hx hb hml2 hts hown hd hin hR hS (fun k hk => hA k (by omega)) (fun ho => (hN ho).1) hfr hlo ?_ ?_ h2 (fun H1 locs1 c1 s1 g1 g2 g3 g4 g5 => ih _ _ _ _ h ls H1 locs1 c1 s1 hl g1 g2 (fun ho => ?_) ?_ ?_)
        · show _ ≤ mc; omega
        · show _ ≤ ms; omega
        · have := hN (g3.symm.trans ho)
          omega
        · omega
        · omega
      | none =>
        rw [h2] at h
        dsimp only at h
        cases h3 : s3 i pc len S with
        | some q =>
          obtain ⟨pc1, S1⟩ := q
          rw [h3] at h
          dsimp only at h
          exact w3 hx hb hd hlen h3 (ih _ _ _ _ h ls H locs cells slots hl hR hS hN hmc hms)
        | none =>
          rw [h3] at h
          dsimp only at h
          cases h4 : s4 (mR m) i S with
          | some q =>
            rw [h4] at h
            cases h
            have e1 : mc = cells := by omega
            have e2 : ms = slots := by omega
            subst e1; subst e2
            have hq : ∀ (v : Option Value), v = r.map (rv b) → ∀ t : State, t.heap = H → s.WarmedH t.vm → jQ D b r σ' A args s (.returned v) t := fun v hv t ht hW => ⟨by rw [hv], by rw [ht]; exact hR.warm hW, hS.F ht⟩
            cases i
            case ireturn =>
              have hlen : (len == 1) = true := hlen
              rw [beq_iff_eq] at hlen
              subst hlen
              unfold s4 at h4
              dsimp only at h4
              split at h4
              · rename_i x hrt
                cases h4
                rw [hrt] at hr
                exact W.zret hx hb hr rfl (hq _ rfl) hS.2.2 hd hlocks
              · rename_i x hrt
                split at h4 <;> cases h4
                rename_i hz
                simp only [Bool.or_eq_true, decide_eq_true_eq] at hz
                rw [hrt] at hr
                exact W.zret hx hb hr (by rcases hz with rfl | rfl <;> decide) (hq _ rfl) hS.2.2 hd hlocks
              · cases h4
            case areturn =>
              have hlen : (len == 1) = true := hlen
              rw [beq_iff_eq] at hlen
              subst hlen
              unfold s4 at h4
              dsimp only at h4
              split at h4
              · rename_i x nn hrt
                cases h4
                rw [hrt] at hr
                exact W.aret hx hb hr (Or.inl ⟨_, rfl⟩) (Or.inr ⟨_, rfl⟩) (hq _ rfl) hS.2.2 hd hlocks
              · cases h4
            case return_ =>
              have hlen : (len == 1) = true := hlen
              rw [beq_iff_eq] at hlen
              subst hlen
              unfold s4 at h4
              dsimp only at h4
              split at h4
              · rename_i hrt
                cases h4
                rw [hrt] at hr
                exact W.vret hx hb hr (hq _ rfl) hS.2.2 hd hlocks
              · cases h4
            all_goals (unfold s4 at h4; cases h4)
          | none =>
            rw [h4] at h
            dsimp only at h
            cases h5 : s5 (mO m) i S σ with
            | none => rw [h5] at h; cases h
            | some q =>
              obtain ⟨m', a, S1⟩ := q
              rw [h5] at h
              dsimp only at h
              cases d with
              | zero => cases h
              | succ d =>
                dsimp only at h
                by_cases hz : szS a ≤ mL m'
                case neg => rw [if_neg hz] at h; cases h
                rw [if_pos hz] at h
                cases h6 : run f d m' 0 (iniL (mL m') a) [] σ with
                | none => rw [h6] at h; cases h
                | some q =>
                  obtain ⟨r1, σ1⟩ := q
                  rw [h6] at h
                  dsimp only at h
                  obtain ⟨a1, a2, a3⟩ := run_mono _ _ _ _ _ _ _ _ _ h6
                  obtain ⟨b1, b2, b3⟩ := run_mono _ _ _ _ _ _ _ _ _ h
                  have hlen2 : len = 3 := by
                    cases i <;> first | (unfold s5 at h5; cases h5; done) | exact beq_iff_eq.mp hlen
                  subst hlen2
                  have hM : m' < 230 → jMet l D b A d m' a σ r1 σ1 := fun hm' => hC d rfl m' a σ r1 σ1 hm' hz ⟨f, h6⟩ (fun k hk => hA k (by omega)) (fun ho => (hN ho).2)
                  refine w5 (d := d) (r := r1) (σ' := σ1) hx hb hml2 hts hown hd hR hS hN (Nat.le_refl _) (Nat.le_refl _) (by show _ ≤ mc; omega) (by show _ ≤ ms; omega) h5 hM ?_ (fun H1 locs1 g1 g2 => ih _ _ _ _ h ls H1 locs1 _ _ hl g1 g2 (fun ho => ?_) ?_ ?_)
                  · intro n g1 g2 g3 g4 g5 g6 g7 g8
                    obtain ⟨k1, k2, k3, -⟩ := tS_use hts g1
                    have := hu (As := a.map (rv b)) (rest := S1.map (rv b)) (R := jRM (d + 1) mc ms) (H := H) (locs := locs) (cells := cells) (slots := slots) (below := below) (meth := meth) (e := e) hx hb hml2 hts hown g4 (Nat.le_refl _) (Nat.le_refl _) (by show _ ≤ mc; omega) (by show _ ≤ ms; omega) k1 g2 g3 k2 k3 (hM k1) ⟨jP_blind, pre_of hR g8⟩ (by rw [List.length_map]; exact g5) (by rw [sz_rv]; exact g7)
                    rw [g6, rev_map]
                    exact this
                  · have := hN (a3.symm.trans ho)
                    omega
                  · omega
                  · omega
theorem sound1 (hu : upOk l) (d : Nat) (hC : ∀ d', d = d' + 1 → ∀ (m' : Nat) (a : List jV) (σ : jS) (r : Option jV) (σ' : jS), m' < 230 → szS a ≤ mL m' → (∃ f, run f d' m' 0 (iniL (mL m') a) [] σ = some (r, σ')) → (∀ k, k < σ'.2.1 → A (b + k)) → (σ.1 = true → 0 < σ.2.1) → jMet l D b A d' m' a σ r σ')
    (m : Nat) (a : List jV) (σ : jS) (r : Option jV) (σ' : jS) (hm : m < 230) (hz : szS a ≤ mL m) (hf : ∃ f, run f d m 0 (iniL (mL m) a) [] σ = some (r, σ')) (hA : ∀ k, k < σ'.2.1 → A (b + k)) (hpos : σ.1 = true → 0 < σ.2.1) : jMet l D b A d m a σ r σ' := by
  obtain ⟨f, hf⟩ := hf
  refine Met.ofW (cc := mB m) (maxL := mL m) (ret := mR m) (mT_cls hm).2.2.1 rfl ?_
  intro p e s mi args below meth c s₁ B hml hv
  obtain ⟨rfl, hR, hsz⟩ := hv
  have hts0 := atoms_spec (ws := jws m) B.pre
  have hts : ∀ w ∈ jW, w.before ((a.map (rv b)).toArray) s = true := fun w hw => hts0 w (List.mem_cons_of_mem _ hw)
  have hown : s.vm.findClass (oN (mO m)) = some mi.cls := by rw [← (mT_cls hm).1]; exact findClass_of_methodNamed B.named
  have hin : isInit m = true → meth.name = "<init>" := fun h => (name_of_methodNamed B.named B.method).1.trans (beq_iff_eq.mp h)
  have hl := lv_entry (a.map (rv b)) (n := mL m) (by rw [lgl_len]; exact hz)
  rw [lg_entry_eq]
  generalize (lg_sl (a.map (rv b)) ++ List.replicate (mL m - (lg_sl (a.map (rv b))).length) Slot.unset).toArray = ls at hl ⊢
  exact soundF hu B.exec B.bytes hml B.returns B.notSynchronized hts hown hin hA hC f 0 _ [] σ hf ls s.heap [] 0 0 (ini_ls hz hl) hR va_S.rf (fun ho => ⟨by rw [hsz ho]; rfl, hpos ho⟩) (Nat.zero_add _) (Nat.zero_add _)
theorem sound (hu : upOk l) : ∀ (d m : Nat) (a : List jV) (σ : jS) (r : Option jV) (σ' : jS), m < 230 → szS a ≤ mL m → (∃ f, run f d m 0 (iniL (mL m) a) [] σ = some (r, σ')) → (∀ k, k < σ'.2.1 → A (b + k)) → (σ.1 = true → 0 < σ.2.1) → jMet l D b A d m a σ r σ' := by
  intro d
  induction d with
  | zero => exact sound1 hu 0 (fun d' h => by cases h)
  | succ d ihd => exact sound1 hu (d + 1) (fun d' h => by cases h; exact ihd)
end SND
end
section
/-! a static method that a class inherits: its entry is resolved at the named class, the method is its superclass's -/
section UP
variable {p : Program} {l : Launch} {e : Env} {R : Room} {s : State} {m : MethodId} {args : Array Value} {below : List Frame} {meth : Method} {c : Code} {T : State} {locs : List Loc} {cells slots : Nat}
theorem sup_warm {Q : Unit → Pre} {E : CtlPost} {d : Bool} {acts : List Action} {U U₀ : State} {f : JFrame} {ix ci nt cn : Nat} {mk : MethodId} {dk ck : Class} {cf : ClassFile} {nm ds : String}
    (htop : U.topJava?.isSome) (hpv : e.platform.polymorphicOnlyByInvokevirtual = true) (hW : U₀.WarmedH U.vm) (hE : U₀.MethodEntryUp e U.vm f.method.cls ix cn mk ci) (hdk : U₀.vm.classes[f.method.cls]? = some dk) (hcf : dk.cf = some cf)
    (hcp : cf.constantPool[ix]? = some (if false then .interfaceMethodref ci nt else .methodref ci nt)) (hnt : cf.constantPool.nameAndType? nt = some (nm, ds)) (hck : U₀.vm.classes[cn]? = some ck) (hno : (ck.methods.any fun y => y.name == nm && !y.isStatic && signaturePolymorphic ck y) = false) :
    wp (invokestatic.sem ix) Q E e d acts (U.setTop f) ↔ wp (invokestatic.sem ix) Q E e d acts ((U.setVm (U.vm.calledUp f.method.cls ci ix cn mk)).setTop f) := by
  obtain ⟨gc, -, w1, gm⟩ := hE.classFirst
  have look : ∀ {vm : Vm}, U₀.WarmedH vm → (∃ k, vm.classes[f.method.cls]? = some k ∧ k.cf = some cf) ∧ ∃ k, vm.classes[cn]? = some k ∧ (k.methods.any fun y => y.name == nm && !y.isStatic && signaturePolymorphic k y) = false := by
    intro vm w
    obtain ⟨k, hk, ek⟩ := w.alike.2.2 _ _ hdk
    obtain ⟨k', hk', ek'⟩ := w.alike.2.2 _ _ hck
    exact ⟨⟨k, hk, by rw [ek]; exact hcf⟩, k', hk', by rw [ek']; exact hno⟩
  obtain ⟨⟨ka, hka, fa⟩, -⟩ := look hW
  obtain ⟨-, kb, hkb, nb⟩ := look w1
  obtain ⟨⟨kd, hkd, fd⟩, kq, hkq, nq⟩ := look hE.warmed
  have ra := memberRef_ask_via (e := e) hka fa hcp hnt
  have rd := memberRef_ask_via (e := e) hkd fd hcp hnt
  have t1 := State.method?_setTop (s := U) f htop
  have t2 := State.method?_setTop (s := U.setVm (U.vm.noted f.method.cls ci (.cls cn))) f htop
  have t3 := State.method?_setTop (s := U.setVm (U.vm.calledUp f.method.cls ci ix cn mk)) f htop
  have stC : ∀ {Q' : ClassId → Pre} {d' : Bool} {acts' : List Action}, wp (Jvm.resolveClassAt ci) Q' E e d' acts' (U.setTop f) ↔ Q' cn d' acts' ((U.setVm (U.vm.noted f.method.cls ci (.cls cn))).setTop f) := W.resolveClassAt_links (t := U.setTop f) t1 gc
  have stM : ∀ {Q' : MethodId → Pre} {d' : Bool} {acts' : List Action}, wp (Jvm.resolveMethodAt ix) Q' E e d' acts' ((U.setVm (U.vm.noted f.method.cls ci (.cls cn))).setTop f) ↔ Q' mk d' acts' ((U.setVm (U.vm.calledUp f.method.cls ci ix cn mk)).setTop f) := W.resolveMethodAt_links (t := (U.setVm (U.vm.noted f.method.cls ci (.cls cn))).setTop f) t2 gm
  simp [invokestatic.sem, hpv, Seam.memberRefOf, t1, t3, ra, rd, stC, stM, W.resolveClassAt_ready (s := (U.setVm (U.vm.calledUp f.method.cls ci ix cn mk)).setTop f) t3 hE.classReady, W.resolveMethodAt_ready (s := (U.setVm (U.vm.calledUp f.method.cls ci ix cn mk)).setTop f) t3 hE.ready, hkb, hkq, nb, nq, -Array.any_eq_true]
theorem sup_step (X : Stand p l e R s m args below meth c T locs cells slots) (hexec : p.tables.exec = Jvm.exec) {own : String} {ix : Nat} {y : MethodName} {cls : String} (hown : s.vm.findClass own = some m.cls)
    (hlink : (Cond.methodLink own ix ⟨cls, y.name, y.desc⟩).before args s = true) (hsame : (Cond.sameMethod cls y.cls y.name y.desc).before args s = true) (hy : y.cls ≠ "java/lang/invoke/MethodHandle" ∧ y.cls ≠ "java/lang/invoke/VarHandle")
    {mk : MethodId} {mm : Method} {kk : Class} (hn : s.methodNamed? y = some mk) (hmm : s.vm.method? mk = some mm) (hst : mm.isStatic = true) (hkk : s.vm.classes[mk.cls]? = some kk) (hini : kk.init = .initialized)
    {g : JFrame} (hg : g.method = m) {As rest : List Value} (hlen : As.length = mm.sig.parameters.length) (hstack : g.stack = As.reverse ++ rest) (hdg : decode c.code g.pc = .ok (.invokestatic ix, 3)) :
    ∃ vm', Stand p l e R s m args below meth c (T.setVm vm') locs cells slots ∧ ∀ tg, (∀ acts, Steps p.tables e below (doInvoke e ((T.setVm vm').setTop { g with stack := rest }) acts mk As.toArray).1 tg) → Steps p.tables e below (T.setTop g) tg := by
  obtain ⟨cn, ck, r1, hcn, hck, hni, hf, hn1⟩ := Cond.sameMethod_found hsame
  cases hn.symm.trans hn1
  obtain ⟨ci, hl, hright⟩ := Cond.methodLink_specUp (x := ⟨cls, y.name, y.desc⟩) hown hcn hck hni hf hlink e.platform (by rw [X.admits.platform]) (by rw [X.admits.platform])
  have hE : s.MethodEntryUp e T.vm m.cls ix cn mk ci := State.methodEntryUp X.warmed hl hright
  obtain ⟨kx, hkx, hnx⟩ := className_of_methodNamed hn
  cases hkk.symm.trans hkx
  obtain ⟨dk, cf, nt, nm, ds, ck1, -, -, hdk, hcf, hcp, hnt, -, -, hck1, -, hpoly, -⟩ := hl.here
  cases hck.symm.trans hck1
  have hcp : cf.constantPool[ix]? = some (if false then .interfaceMethodref ci nt else .methodref ci nt) := hcp
  have al := hE.warmed.alike
  obtain ⟨dk2, hdk2, ed⟩ := al.2.2 _ _ hdk
  obtain ⟨kk2, hkk2, ek⟩ := al.2.2 _ _ hkk
  obtain ⟨ck2, hck2, ec⟩ := al.2.2 _ _ hck
  have no1 : (ck.methods.any fun z => z.name == nm && !z.isStatic && signaturePolymorphic ck z) = false := by simp [hpoly]
  have no2 : (ck2.methods.any fun z => z.name == nm && !z.isStatic && signaturePolymorphic ck2 z) = false := by rw [ec]; exact no1
  have np : signaturePolymorphic kk2 mm = false := by rw [ek]; show signaturePolymorphic kk mm = false; simp [signaturePolymorphic, hnx, hy.1, hy.2]
  have hm2 : (T.vm.calledUp m.cls ci ix cn mk).method? mk = some mm := by rw [al.method?]; exact hmm
  refine ⟨T.vm.calledUp m.cls ci ix cn mk, X.noted hE.warmed, fun tg hr => ?_⟩
  subst hg
  jvm_step X.here [hexec, hdg, sup_warm (e := e) (U := T) (U₀ := s) (f := g) X.here.top (by rw [X.admits.platform]) X.warmed hE hdk hcf hcp hnt hck no1,
    invokestatic.wp_ready (e := e) (s := T.setVm (T.vm.calledUp g.method.cls ci ix cn mk)) (k := kk2) (meth := mm) (m := mk) (args := As) (rest := rest) (f := g) X.here.top ⟨ci, nm, ds, false, cn, ck2, memberRef_ask_via (e := e) hdk2 (by rw [ed]; exact hcf) hcp hnt, hE.classReady, hck2, no2⟩ hE.ready hkk2 hm2 np hst (by rw [ek]; exact hini) hlen hstack]
  exact fun acts => hr _
end UP
theorem up_ok (l : Launch) : upOk l := by
  intro p e R s m args below meth c H locs cells slots cc pc o n d m' mc ms ls As rest Pc Qc free hx hb hml hts hown hd hf hlo hc hs hm hlink hsame hst hini hM hp hn hW
  obtain ⟨k1, k2, k3, k4, k5, k6, k7⟩ := mT_cls hm
  have hcode : (Cond.code (mY m') (mB m') (mL m') (mR m')).before args s = true := hts _ (mT_code m' hm)
  have hK : Back l R p e below s args (mY m') 3 8 (PreOf R mc ms Pc) (PostOf Qc mc ms free) := back_of (bytes := mB m') (maxL := mL m') (ret := mR m') hM hp.1 rfl rfl hf (by show 8 + (mL m' + 11) + 100 * (d + 1) ≤ _; omega) (pay_in hts (jGood hm)) List.mem_cons_self (fun a' U hW => word_at hW (Or.inl (by first | rfl | simp [Cond.onTables, Cond.keeps, Cond.steady])) hini)
  intro T hT X
  obtain ⟨mk, hnamed⟩ := Cond.code_named hcode
  obtain ⟨methM, cM, hmethM, -, -, -, -, -, -, hsigM⟩ := Cond.code_spec hnamed hcode
  have hstatic : methM.isStatic = true := Cond.static_spec hnamed hmethM hst
  obtain ⟨kP, hkP, -⟩ := className_of_methodNamed hnamed
  have hinitP : kP.init = .initialized := Cond.initialized_spec (findClass_of_methodNamed hnamed) hkP hini
  obtain ⟨vm₁, X₁, hstep⟩ := sup_step X hx hown hlink hsame ⟨k4, k5⟩ hnamed hmethM hstatic hkP hinitP (g := F0 m pc ls (As.reverse ++ rest)) rfl (As := As) (rest := rest) (hn.trans (par_len k6 _ hsigM)) rfl (by rw [hb]; exact hd)
  obtain ⟨v, B, X', hpost, hsteps⟩ := hK m meth c ⟨T.setVm vm₁, locs, cells, slots⟩ (F0 m pc ls rest) (.invokestatic n) mk As.toArray X₁ rfl hml.symm (by rw [hb]; exact hd) (lv_room hW) (X₁.named hnamed) ⟨hc, hs, hp.2 (T.setVm vm₁) hT X₁.warmed⟩
  obtain ⟨U', l2, c2, s2⟩ := B
  obtain ⟨g', mk', t, L, e1, e2, hq, h1, hL, h2, h3⟩ := hpost
  dsimp only [Pt.U, Pt.locs, Pt.cells, Pt.slots] at X' e1 e2 h1 h2 h3 hsteps
  subst h1; subst h2; subst h3
  exact ⟨v, (T.setVm vm₁).calling g' mk' As.toArray, t, U', L, hT, X', hL, e1, e2, hq, fun tg h => hstep _ fun acts => by rw [doInvoke_state]; exact hsteps.trans h⟩
end
section
/-! WALKING THE SMALL MACHINE: Ev: from here the method comes to its end with Q; Cl: a call of it does -/
def Ev (d m pc : Nat) (L : jL) (S : List jV) (σ : jS) (Q : Option jV → jS → Prop) : Prop := ∃ (f : Nat) (r : Option jV) (σ' : jS), run f d m pc L S σ = some (r, σ') ∧ Q r σ'
def Cl (d m : Nat) (a : List jV) (σ : jS) (Q : Option jV → jS → Prop) : Prop := szS a ≤ mL m ∧ Ev d m 0 (iniL (mL m) a) [] σ Q
/-- a store in which nothing more is made -/
abbrev ST (n sl : Nat) (sh : Nat → Nat × Nat) (I : Nat → Int → Int) (R : Nat → Int → Option Nat) : jS := (false, n, sl, sh, I, R)
section EV
variable {d m pc : Nat} {L L' : jL} {S S' : List jV} {σ σ' : jS} {Q : Option jV → jS → Prop} {i : Instr} {len : Nat}
theorem ev_s1 (hd : decode (mB m) pc = .ok (i, len)) (hl : lenOk i len = true) (h : s1 (mO m) i L S = some (L', S')) (k : Ev d m (pc + len) L' S' σ Q) : Ev d m pc L S σ Q := by
  obtain ⟨f, r, σ', h1, h2⟩ := k
  refine ⟨f + 1, r, σ', ?_, h2⟩
  unfold run
  simp only [hd, hl, if_true, h]
  exact h1
theorem ev_s2 (hd : decode (mB m) pc = .ok (i, len)) (hl : lenOk i len = true) (h0 : s1 (mO m) i L S = none) (h : s2 (mO m) (isInit m) i S σ = some (S', σ')) (k : Ev d m (pc + len) L S' σ' Q) : Ev d m pc L S σ Q := by
  obtain ⟨f, r, σ1, h1, h2⟩ := k
  refine ⟨f + 1, r, σ1, ?_, h2⟩
  unfold run
  simp only [hd, hl, if_true, h0, h]
  exact h1
theorem ev_s3 {pc' : Nat} (hd : decode (mB m) pc = .ok (i, len)) (hl : lenOk i len = true) (h0 : s1 (mO m) i L S = none) (h1 : s2 (mO m) (isInit m) i S σ = none) (h : s3 i pc len S = some (pc', S')) (k : Ev d m pc' L S' σ Q) : Ev d m pc L S σ Q := by
  obtain ⟨f, r, σ1, g1, h2⟩ := k
  refine ⟨f + 1, r, σ1, ?_, h2⟩
  unfold run
  simp only [hd, hl, if_true, h0, h1, h]
  exact g1
theorem ev_s4 {r : Option jV} (hd : decode (mB m) pc = .ok (i, len)) (hl : lenOk i len = true) (h0 : s1 (mO m) i L S = none) (h1 : s2 (mO m) (isInit m) i S σ = none) (h2 : s3 i pc len S = none) (h : s4 (mR m) i S = some r) (k : Q r σ) : Ev d m pc L S σ Q := by
  refine ⟨1, r, σ, ?_, k⟩
  unfold run
  simp only [hd, hl, if_true, h0, h1, h2, h]
theorem ev_s5 {m' : Nat} {a : List jV} (hd : decode (mB m) pc = .ok (i, len)) (hl : lenOk i len = true) (h0 : s1 (mO m) i L S = none) (h1 : s2 (mO m) (isInit m) i S σ = none) (h2 : s3 i pc len S = none) (h3 : s4 (mR m) i S = none) (h : s5 (mO m) i S σ = some (m', a, S')) (hdp : 0 < d) (k : Cl (d - 1) m' a σ (fun r σ' => Ev d m (pc + 3) L (r.toList ++ S') σ' Q)) : Ev d m pc L S σ Q := by
  obtain ⟨hz, f, r, σ1, g1, f2, r2, σ2, g2, g3⟩ := k
  refine ⟨f + f2 + 1, r2, σ2, ?_, g3⟩
  have e1 := run_le (g := f + f2) (by omega) g1
  have e2 := run_le (g := f + f2) (by omega) g2
  obtain ⟨d, rfl⟩ : ∃ d', d = d' + 1 := ⟨d - 1, by omega⟩
  unfold run
  simp only [hd, hl, if_true, h0, h1, h2, h3, h, hz]
  rw [show d + 1 - 1 = d from rfl] at e1
  rw [e1]
  exact e2
theorem Ev.mono {Q' : Option jV → jS → Prop} (h : Ev d m pc L S σ Q) (hq : ∀ r σ, Q r σ → Q' r σ) : Ev d m pc L S σ Q' := by
  obtain ⟨f, r, σ', h1, h2⟩ := h
  exact ⟨f, r, σ', h1, hq _ _ h2⟩
theorem Cl.mono {a : List jV} {Q' : Option jV → jS → Prop} (h : Cl d m a σ Q) (hq : ∀ r σ, Q r σ → Q' r σ) : Cl d m a σ Q' := ⟨h.1, h.2.mono hq⟩
end EV
section EVS
variable {d m pc n sl : Nat} {sh : Nat → Nat × Nat} {I : Nat → Int → Int} {R : Nat → Int → Option Nat} {L : jL} {S : List jV} {Q : Option jV → jS → Prop}
theorem ev_ldc {ix : Nat} {z : Int} (hd : decode (mB m) pc = .ok (.ldc ix, 2) ∧ tK (mO m) ix = some z) (k : Ev d m (pc + 2) L (vi z :: S) (ST n sl sh I R) Q) : Ev d m pc L S (ST n sl sh I R) Q :=
  ev_s1 hd.1 rfl (by show (tK (mO m) ix).map _ = _; rw [hd.2]; rfl) k
theorem ev_ldcw {ix : Nat} {z : Int} (hd : decode (mB m) pc = .ok (.ldc_w ix, 3) ∧ tK (mO m) ix = some z) (k : Ev d m (pc + 3) L (vi z :: S) (ST n sl sh I R) Q) : Ev d m pc L S (ST n sl sh I R) Q :=
  ev_s1 hd.1 rfl (by show (tK (mO m) ix).map _ = _; rw [hd.2]; rfl) k
theorem ev_ldc2 {ix : Nat} {z : Int} (hd : decode (mB m) pc = .ok (.ldc2_w ix, 3) ∧ tKK (mO m) ix = some z) (k : Ev d m (pc + 3) L (vl z :: S) (ST n sl sh I R) Q) : Ev d m pc L S (ST n sl sh I R) Q :=
  ev_s1 hd.1 rfl (by show (tKK (mO m) ix).map _ = _; rw [hd.2]; rfl) k
theorem ev_idiv {x y : Int} (hd : decode (mB m) pc = .ok (.idiv, 1)) (h0 : 0 ≤ x) (h1 : x < 2147483648) (h2 : 0 < y) (h3 : y < 2147483648) (k : Ev d m (pc + 1) L (vi (x / y) :: S) (ST n sl sh I R) Q) : Ev d m pc L (vi y :: vi x :: S) (ST n sl sh I R) Q :=
  ev_s1 hd rfl (by simp [s1, h0, h1, h2, h3]) k
theorem ev_irem {x y : Int} (hd : decode (mB m) pc = .ok (.irem, 1)) (h0 : 0 ≤ x) (h1 : x < 2147483648) (h2 : 0 < y) (h3 : y < 2147483648) (k : Ev d m (pc + 1) L (vi (x % y) :: S) (ST n sl sh I R) Q) : Ev d m pc L (vi y :: vi x :: S) (ST n sl sh I R) Q :=
  ev_s1 hd rfl (by simp [s1, h0, h1, h2, h3]) k
theorem ev_lrem {x y : Int} (hd : decode (mB m) pc = .ok (.lrem, 1)) (h0 : 0 ≤ x) (h1 : x < 9223372036854775808) (h2 : 0 < y) (h3 : y < 9223372036854775808) (k : Ev d m (pc + 1) L (vl (x % y) :: S) (ST n sl sh I R) Q) : Ev d m pc L (vl y :: vl x :: S) (ST n sl sh I R) Q :=
  ev_s1 hd rfl (by simp [s1, h0, h1, h2, h3]) k
theorem ev_ishl {x y : Int} (hd : decode (mB m) pc = .ok (.ishl, 1)) (h0 : 0 ≤ y) (h1 : y < 32) (k : Ev d m (pc + 1) L (vi (x * 2 ^ y.toNat) :: S) (ST n sl sh I R) Q) : Ev d m pc L (vi y :: vi x :: S) (ST n sl sh I R) Q :=
  ev_s1 hd rfl (by simp [s1, h0, h1]) k
theorem ev_ishr {x y : Int} (hd : decode (mB m) pc = .ok (.ishr, 1)) (h0 : 0 ≤ y) (h1 : y < 32) (k : Ev d m (pc + 1) L (vi (wr x / 2 ^ y.toNat) :: S) (ST n sl sh I R) Q) : Ev d m pc L (vi y :: vi x :: S) (ST n sl sh I R) Q :=
  ev_s1 hd rfl (by simp [s1, h0, h1]) k
theorem ev_iand1 {x : Int} (hd : decode (mB m) pc = .ok (.iand, 1)) (k : Ev d m (pc + 1) L (vi (x % 2) :: S) (ST n sl sh I R) Q) : Ev d m pc L (vi 1 :: vi x :: S) (ST n sl sh I R) Q :=
  ev_s1 hd rfl (by simp [s1]) k
theorem ev_ior {x y : Int} (hd : decode (mB m) pc = .ok (.ior, 1)) (h0 : 0 ≤ x) (h1 : x < 2147483648) (h2 : 0 ≤ y) (h3 : y < 2147483648) (k : Ev d m (pc + 1) L (vi ((x.toNat ||| y.toNat : Nat) : Int) :: S) (ST n sl sh I R) Q) : Ev d m pc L (vi y :: vi x :: S) (ST n sl sh I R) Q :=
  ev_s1 hd rfl (by simp [s1, h0, h1, h2, h3]) k
theorem ev_i2l {x : Int} (hd : decode (mB m) pc = .ok (.i2l, 1)) (h0 : -2147483648 ≤ x) (h1 : x < 2147483648) (k : Ev d m (pc + 1) L (vl x :: S) (ST n sl sh I R) Q) : Ev d m pc L (vi x :: S) (ST n sl sh I R) Q :=
  ev_s1 hd rfl (by simp [s1, inB, h0, h1]) k
theorem ev_getI {ix k c j fin : Nat} (hd : decode (mB m) pc = .ok (.getfield ix, 3) ∧ tF (mO m) ix = some (c, j, 0, fin)) (hk : k < n) (hs : sh k = (c, 0)) (kk : Ev d m (pc + 3) L (vi (I k j) :: S) (ST n sl sh I R) Q) : Ev d m pc L (vr k :: S) (ST n sl sh I R) Q :=
  ev_s2 hd.1 rfl rfl (by simp [s2, hd.2, hk, hs]) kk
theorem ev_getR {ix k c j fin q : Nat} (hd : decode (mB m) pc = .ok (.getfield ix, 3) ∧ tF (mO m) ix = some (c, j, 1, fin)) (hk : k < n) (hs : sh k = (c, 0)) (hr : R k j = some q) (kk : Ev d m (pc + 3) L (vr q :: S) (ST n sl sh I R) Q) : Ev d m pc L (vr k :: S) (ST n sl sh I R) Q :=
  ev_s2 hd.1 rfl rfl (by simp [s2, hd.2, hk, hs, hr]) kk
theorem ev_putI {ix k c j : Nat} {z : Int} (hd : decode (mB m) pc = .ok (.putfield ix, 3) ∧ tF (mO m) ix = some (c, j, 0, 0)) (hk : k < n) (hs : sh k = (c, 0)) (kk : Ev d m (pc + 3) L S (ST n sl sh (up I k j z) R) Q) : Ev d m pc L (vi z :: vr k :: S) (ST n sl sh I R) Q :=
  ev_s2 hd.1 rfl rfl (by simp [s2, hd.2, hk, hs]) kk
theorem ev_putR {ix k c j q : Nat} (hd : decode (mB m) pc = .ok (.putfield ix, 3) ∧ tF (mO m) ix = some (c, j, 1, 0)) (hk : k < n) (hs : sh k = (c, 0)) (kk : Ev d m (pc + 3) L S (ST n sl sh I (up R k j (some q))) Q) : Ev d m pc L (vr q :: vr k :: S) (ST n sl sh I R) Q :=
  ev_s2 hd.1 rfl rfl (by simp [s2, hd.2, hk, hs]) kk
theorem ev_iald {k len : Nat} {x : Int} (hd : decode (mB m) pc = .ok (.iaload, 1)) (hk : k < n) (hs : sh k = (50, len)) (h0 : 0 ≤ x) (h1 : x < len) (kk : Ev d m (pc + 1) L (vi (I k x) :: S) (ST n sl sh I R) Q) : Ev d m pc L (vi x :: vr k :: S) (ST n sl sh I R) Q :=
  ev_s2 hd rfl rfl (by simp [s2, hk, hs, h0, h1]) kk
theorem ev_iast {k len : Nat} {x z : Int} (hd : decode (mB m) pc = .ok (.iastore, 1)) (hk : k < n) (hs : sh k = (50, len)) (h0 : 0 ≤ x) (h1 : x < len) (kk : Ev d m (pc + 1) L S (ST n sl sh (up I k x z) R) Q) : Ev d m pc L (vi z :: vi x :: vr k :: S) (ST n sl sh I R) Q :=
  ev_s2 hd rfl rfl (by simp [s2, hk, hs, h0, h1]) kk
theorem ev_zald {k len : Nat} {x : Int} (hd : decode (mB m) pc = .ok (.baload, 1)) (hk : k < n) (hs : sh k = (51, len)) (h0 : 0 ≤ x) (h1 : x < len) (kk : Ev d m (pc + 1) L (vi (I k x) :: S) (ST n sl sh I R) Q) : Ev d m pc L (vi x :: vr k :: S) (ST n sl sh I R) Q :=
  ev_s2 hd rfl rfl (by simp [s2, hk, hs, h0, h1]) kk
theorem ev_zast {k len : Nat} {x z : Int} (hd : decode (mB m) pc = .ok (.bastore, 1)) (hk : k < n) (hs : sh k = (51, len)) (h0 : 0 ≤ x) (h1 : x < len) (hz : z = 0 ∨ z = 1) (kk : Ev d m (pc + 1) L S (ST n sl sh (up I k x z) R) Q) : Ev d m pc L (vi z :: vi x :: vr k :: S) (ST n sl sh I R) Q :=
  ev_s2 hd rfl rfl (by simp [s2, hk, hs, h0, h1, hz]) kk
theorem ev_aald {k t len q : Nat} {x : Int} (hd : decode (mB m) pc = .ok (.aaload, 1)) (hk : k < n) (hs : sh k = (t, len)) (ht : 52 ≤ t) (ht2 : t ≤ 54) (h0 : 0 ≤ x) (h1 : x < len) (hr : R k x = some q) (kk : Ev d m (pc + 1) L (vr q :: S) (ST n sl sh I R) Q) : Ev d m pc L (vi x :: vr k :: S) (ST n sl sh I R) Q :=
  ev_s2 hd rfl rfl (by simp [s2, hk, hs, h0, h1, hr, ht, ht2]) kk
theorem ev_aast {k t len q ci : Nat} {x : Int} (hd : decode (mB m) pc = .ok (.aastore, 1)) (hk : k < n) (hs : sh k = (t, len)) (hq : q < n) (hs2 : sh q = (ci, 0)) (hci : ci < 12) (ht : 52 ≤ t) (ht2 : t ≤ 54) (hi : tIt ci t = true) (h0 : 0 ≤ x) (h1 : x < len) (kk : Ev d m (pc + 1) L S (ST n sl sh I (up R k x (some q))) Q) : Ev d m pc L (vr q :: vi x :: vr k :: S) (ST n sl sh I R) Q :=
  ev_s2 hd rfl rfl (by simp [s2, hk, hs, hq, hs2, hci, hi, h0, h1, ht, ht2]) kk
theorem ev_len {k t len : Nat} (hd : decode (mB m) pc = .ok (.arraylength, 1)) (hk : k < n) (hs : sh k = (t, len)) (ht : 50 ≤ t) (ht2 : t ≤ 54) (kk : Ev d m (pc + 1) L (vi (len : Nat) :: S) (ST n sl sh I R) Q) : Ev d m pc L (vr k :: S) (ST n sl sh I R) Q :=
  ev_s2 hd rfl rfl (by simp [s2, hk, hs, ht, ht2]) kk
theorem ev_inst {ix k w ci : Nat} {r : Bool} (hd : decode (mB m) pc = .ok (.instanceof ix, 3) ∧ tO (mO m) ix = some w) (hk : k < n) (hs : sh k = (ci, 0)) (hci : ci < 12) (hr : tIn ci w = some r) (kk : Ev d m (pc + 3) L (vi (if r then 1 else 0) :: S) (ST n sl sh I R) Q) : Ev d m pc L (vr k :: S) (ST n sl sh I R) Q :=
  ev_s2 hd.1 rfl rfl (by simp [s2, hd.2, hk, hs, hci, hr]) kk
theorem ev_max {ix : Nat} {x y : Int} (hd : decode (mB m) pc = .ok (.invokestatic ix, 3) ∧ tM (mO m) ix = some 3) (hx : inB x = true) (hy : inB y = true) (hz : szS S ≤ 8) (kk : Ev d m (pc + 3) L (vi (if x < y then y else x) :: S) (ST n sl sh I R) Q) : Ev d m pc L (vi y :: vi x :: S) (ST n sl sh I R) Q :=
  ev_s2 hd.1 rfl rfl (by simp [s2, hd.2, hx, hy, hz]) kk
theorem ev_min {ix : Nat} {x y : Int} (hd : decode (mB m) pc = .ok (.invokestatic ix, 3) ∧ tM (mO m) ix = some 4) (hx : inB x = true) (hy : inB y = true) (hz : szS S ≤ 8) (kk : Ev d m (pc + 3) L (vi (if x < y then x else y) :: S) (ST n sl sh I R) Q) : Ev d m pc L (vi y :: vi x :: S) (ST n sl sh I R) Q :=
  ev_s2 hd.1 rfl rfl (by simp [s2, hd.2, hx, hy, hz]) kk
theorem ev_abs {ix : Nat} {x : Int} (hd : decode (mB m) pc = .ok (.invokestatic ix, 3) ∧ tM (mO m) ix = some 2) (hx : -2147483648 < x) (hy : x < 2147483648) (hz : szS S ≤ 8) (kk : Ev d m (pc + 3) L (vi (if 0 ≤ x then x else -x) :: S) (ST n sl sh I R) Q) : Ev d m pc L (vi x :: S) (ST n sl sh I R) Q :=
  ev_s2 hd.1 rfl rfl (by simp [s2, hd.2, hx, hy, hz]) kk
theorem ev_bit {ix : Nat} {x : Int} (hd : decode (mB m) pc = .ok (.invokestatic ix, 3) ∧ tM (mO m) ix = some 1) (hx : 0 ≤ x) (hy : x < 32) (hz : szS S ≤ 8) (kk : Ev d m (pc + 3) L (vi (bitC x) :: S) (ST n sl sh I R) Q) : Ev d m pc L (vi x :: S) (ST n sl sh I R) Q :=
  ev_s2 hd.1 rfl rfl (by simp [s2, hd.2, hx, hy, hz]) kk
theorem ev_cpy {ix k0 k1 l0 l1 : Nat} {x sp dp : Int} (hd : decode (mB m) pc = .ok (.invokestatic ix, 3) ∧ tM (mO m) ix = some 0) (g0 : k0 < n) (g1 : k1 < n) (t0 : sh k0 = (50, l0)) (t1 : sh k1 = (50, l1)) (h0 : 0 ≤ sp) (h1 : 0 ≤ dp) (h2 : 0 ≤ x) (h3 : sp + x ≤ l0) (h4 : dp + x ≤ l1) (hz : szS S ≤ 8) (kk : Ev d m (pc + 3) L S (ST n sl sh (cpI I k0 k1 sp dp x) R) Q) : Ev d m pc L (vi x :: vi dp :: vr k1 :: vi sp :: vr k0 :: S) (ST n sl sh I R) Q :=
  ev_s2 hd.1 rfl rfl (by simp [s2, hd.2, g0, g1, t0, t1, h0, h1, h2, h3, h4, hz]) kk
theorem ev_goto {off : Int} {t : Nat} (hd : decode (mB m) pc = .ok (.goto off, 3)) (ht : toPc pc off = some t) (kk : Ev d m t L S (ST n sl sh I R) Q) : Ev d m pc L S (ST n sl sh I R) Q :=
  ev_s3 hd rfl rfl rfl (by simp [s3, ht]) kk
theorem ev_if {cd : Jvm.ClassFile.Cond} {off : Int} {t : Nat} {x : Int} (hd : decode (mB m) pc = .ok (.ifCond cd off, 3)) (ht : toPc pc off = some t) (h0 : -2147483648 ≤ x) (h1 : x < 2147483648) (kt : cmpB cd x 0 = true → Ev d m t L S (ST n sl sh I R) Q) (kf : cmpB cd x 0 = false → Ev d m (pc + 3) L S (ST n sl sh I R) Q) : Ev d m pc L (vi x :: S) (ST n sl sh I R) Q := by
  cases hc : cmpB cd x 0
  · exact ev_s3 hd rfl rfl rfl (by simp [s3, ht, inB, h0, h1, hc]) (kf hc)
  · exact ev_s3 hd rfl rfl rfl (by simp [s3, ht, inB, h0, h1, hc]) (kt hc)
theorem ev_icmp {cd : Jvm.ClassFile.Cond} {off : Int} {t : Nat} {x y : Int} (hd : decode (mB m) pc = .ok (.if_icmp cd off, 3)) (ht : toPc pc off = some t) (h0 : -2147483648 ≤ x) (h1 : x < 2147483648) (h2 : -2147483648 ≤ y) (h3 : y < 2147483648) (kt : cmpB cd x y = true → Ev d m t L S (ST n sl sh I R) Q) (kf : cmpB cd x y = false → Ev d m (pc + 3) L S (ST n sl sh I R) Q) : Ev d m pc L (vi y :: vi x :: S) (ST n sl sh I R) Q := by
  cases hc : cmpB cd x y
  · exact ev_s3 hd rfl rfl rfl (by simp [s3, ht, inB, h0, h1, h2, h3, hc]) (kf hc)
  · exact ev_s3 hd rfl rfl rfl (by simp [s3, ht, inB, h0, h1, h2, h3, hc]) (kt hc)
theorem ev_ireturn {x : Int} (hd : decode (mB m) pc = .ok (.ireturn, 1) ∧ mR m = some .int) (kk : Q (some (vi x)) (ST n sl sh I R)) : Ev d m pc L [vi x] (ST n sl sh I R) Q :=
  ev_s4 hd.1 rfl rfl rfl rfl (by rw [hd.2]; rfl) kk
theorem ev_zreturn {x : Int} (hd : decode (mB m) pc = .ok (.ireturn, 1) ∧ mR m = some .boolean) (hx : x = 0 ∨ x = 1) (kk : Q (some (vi x)) (ST n sl sh I R)) : Ev d m pc L [vi x] (ST n sl sh I R) Q :=
  ev_s4 hd.1 rfl rfl rfl rfl (by rw [hd.2]; simp [s4, hx]) kk
theorem ev_return (hd : decode (mB m) pc = .ok (.return_, 1) ∧ mR m = none) (kk : Q none (ST n sl sh I R)) : Ev d m pc L [] (ST n sl sh I R) Q :=
  ev_s4 hd.1 rfl rfl rfl rfl (by rw [hd.2]; rfl) kk
theorem ev_static {ix m' : Nat} {a : List jV} {S' : List jV} (hd : decode (mB m) pc = .ok (.invokestatic ix, 3) ∧ tM (mO m) ix = none ∧ tS (mO m) ix = some m') (hp : popN (mP m') S = some (a, S')) (hz : szS S' ≤ 8) (hdp : 0 < d) (kk : Cl (d - 1) m' a (ST n sl sh I R) (fun r σ' => Ev d m (pc + 3) L (r.toList ++ S') σ' Q)) : Ev d m pc L S (ST n sl sh I R) Q :=
  ev_s5 hd.1 rfl rfl (by simp [s2, hd.2.1]) rfl rfl (by simp [s5, hd.2.2, hp, hz]) hdp kk
theorem ev_virt {ix m' np k ci : Nat} {a : List jV} {S' : List jV} (hd : decode (mB m) pc = .ok (.invokevirtual ix, 3) ∧ tVn (mO m) ix = some np ∧ tV (mO m) ix ci = some m') (hp : popN np S = some (a, vr k :: S')) (hz : szS S' ≤ 8) (hk : k < n) (hs : sh k = (ci, 0)) (hdp : 0 < d) (kk : Cl (d - 1) m' (vr k :: a) (ST n sl sh I R) (fun r σ' => Ev d m (pc + 3) L (r.toList ++ S') σ' Q)) : Ev d m pc L S (ST n sl sh I R) Q :=
  ev_s5 hd.1 rfl rfl rfl rfl rfl (by simp [s5, hd.2.1, hd.2.2, hp, hz, hk, hs]) hdp kk
theorem ev_spec {ix m' k ci : Nat} {a : List jV} {S' : List jV} (hd : decode (mB m) pc = .ok (.invokespecial ix, 3) ∧ tB (mO m) ix = false ∧ tI (mO m) ix = none ∧ tJ (mO m) ix = none ∧ tP (mO m) ix = some m') (hp : popN (mP m') S = some (a, vr k :: S')) (hz : szS S' ≤ 8) (hk : k < n) (hs : sh k = (ci, 0)) (hci : ci < 12) (hdp : 0 < d) (kk : Cl (d - 1) m' (vr k :: a) (ST n sl sh I R) (fun r σ' => Ev d m (pc + 3) L (r.toList ++ S') σ' Q)) : Ev d m pc L S (ST n sl sh I R) Q := by
  have h2 : s2 (mO m) (isInit m) (.invokespecial ix) S (ST n sl sh I R) = none := by
    unfold s2
    dsimp only
    split
    · simp [hd.2.1]
    · rfl
  exact ev_s5 hd.1 rfl rfl h2 rfl rfl (by simp [s5, hd.2.2.1, hd.2.2.2.1, hd.2.2.2.2, hp, hz, hk, hs, hci]) hdp kk
end EVS
end
section
/-! THE TWO OBJECTS, MADE: what the constructors leave, by the kernel -/
def shXl : List (Nat × Nat) := [(10, 0), (52, 8), (50, 8), (4, 0), (50, 16), (52, 2), (52, 24), (53, 5), (5, 0), (7, 0), (0, 0), (9, 0), (2, 0), (8, 0), (54, 5), (50, 5), (50, 5), (50, 5), (50, 5), (1, 0), (1, 0), (1, 0), (1, 0), (1, 0), (6, 0), (4, 0), (50, 100), (4, 0), (50, 53), (8, 0), (54, 5), (50, 5), (50, 5), (50, 5), (50, 5), (1, 0), (1, 0), (1, 0), (1, 0), (1, 0), (3, 0), (4, 0), (50, 53), (50, 3), (50, 5), (8, 0), (54, 5), (50, 5), (50, 5), (50, 5), (50, 5), (1, 0), (1, 0), (1, 0), (1, 0), (1, 0), (1, 0), (4, 0), (50, 40), (4, 0), (50, 40), (4, 0), (50, 40), (4, 0), (50, 40), (4, 0), (50, 40), (4, 0), (50, 40), (4, 0), (50, 40), (4, 0), (50, 40), (4, 0), (50, 53), (4, 0), (50, 53), (4, 0), (50, 53), (4, 0), (50, 53), (4, 0), (50, 53), (4, 0), (50, 53), (4, 0), (50, 53), (4, 0), (50, 53), (4, 0), (50, 53), (4, 0), (50, 53), (4, 0), (50, 53), (4, 0), (50, 53), (4, 0), (50, 53), (4, 0), (50, 53), (4, 0), (50, 53), (4, 0), (50, 53), (4, 0), (50, 53), (4, 0), (50, 53), (4, 0), (50, 53), (4, 0), (50, 53), (4, 0), (50, 53), (4, 0), (50, 53), (4, 0), (50, 53), (4, 0), (50, 53), (4, 0), (50, 53), (4, 0), (50, 53)]
def shX (k : Nat) : Nat × Nat := shXl.getD k (0, 0)
def shMl : List (Nat × Nat) := [(11, 0), (50, 8), (50, 8), (50, 320), (50, 40), (50, 100), (50, 48), (50, 48), (50, 48), (50, 1152), (50, 96), (51, 2), (50, 5), (50, 5), (50, 16)]
def shM (k : Nat) : Nat × Nat := shMl.getD k (0, 0)

/-- the class's own cells: which chairs the room holds (ch), of which kind a chair is (kd) -/
def isCh (a : Nat) : Bool := (Nat.ble 19 a && Nat.ble a 23) || (Nat.ble 35 a && Nat.ble a 39) || (Nat.ble 51 a && Nat.ble a 56)
def isLn (a : Nat) : Bool := a == 3 || a == 25 || a == 27 || a == 41 || (Nat.ble 57 a && Nat.ble a 123 && a % 2 == 1)
def rX (ch : Int → Nat) (kd : Nat → Nat) (a : Nat) (b : Int) : Option Nat :=
  if a == 14 then (if decide (0 ≤ b) && decide (b < 5) then some (ch b) else none)
  else if isCh a then (if b = 0 then some (kd a) else none)
  else if isLn a then (if b = 0 then some (a + 1) else none)
  else if a == 0 then (if b = 0 then some 1 else if b = 1 then some 2 else if b = 2 then some 3 else if b = 3 then some 5 else if b = 4 then some 6 else if b = 5 then some 13 else if b = 6 then some 24 else if b = 7 then some 40 else none)
  else if a == 1 then (if decide (0 ≤ b) && decide (b < 8) then some (57 + 2 * b.toNat) else none)
  else if a == 5 then (if decide (0 ≤ b) && decide (b < 2) then some (73 + 2 * b.toNat) else none)
  else if a == 6 then (if decide (0 ≤ b) && decide (b < 24) then some (77 + 2 * b.toNat) else none)
  else if a == 7 then (if decide (0 ≤ b) && decide (b < 5) then some (8 + b.toNat) else none)
  else if a == 30 || a == 46 then (if decide (0 ≤ b) && decide (b < 5) then some (a + 5 + b.toNat) else none)
  else if a == 13 || a == 29 || a == 45 then (if b = 0 then some 7 else if decide (1 ≤ b) && decide (b ≤ 5) then some (a + b.toNat) else none)
  else if a == 24 then (if b = 0 then some 25 else if b = 1 then some 27 else if b = 2 then some 29 else none)
  else if a == 40 then (if b = 0 then some 13 else if b = 1 then some 45 else if b = 2 then some 7 else if b = 3 then some 56 else if b = 4 then some 41 else if b = 5 then some 43 else if b = 6 then some 44 else none)
  else none
def iX (a : Nat) (b : Int) : Int := if a == 2 then -1 else if isCh a && decide (b = 5) then -1000000 else 0
def rM (a : Nat) (b : Int) : Option Nat := if a == 0 then (if b = 0 then some 1 else if b = 1 then some 2 else if b = 2 then some 3 else if b = 3 then some 4 else if b = 5 then some 5 else if b = 13 then some 6 else if b = 14 then some 7 else if b = 15 then some 8 else if b = 16 then some 9 else if b = 18 then some 10 else if b = 19 then some 11 else if b = 20 then some 12 else if b = 21 then some 13 else if b = 22 then some 14 else none) else none
def iM (a : Nat) (_ : Int) : Int := if a == 1 then -1000000 else 0
def sX0 : jS := (true, 1, 12, (fun a => if a = 0 then (10, 0) else (0, 0)), (fun _ _ => 0), (fun _ _ => none))
def sM0 : jS := (true, 1, 24, (fun a => if a = 0 then (11, 0) else (0, 0)), (fun _ _ => 0), (fun _ _ => none))
/-- how many places a cell has -/
def plc (q : Nat × Nat) : Nat := if q.1 < 12 then cF q.1 else q.2
def chk (n sl : Nat) (sh : Nat → Nat × Nat) (I : Nat → Int → Int) (R : Nat → Int → Option Nat) (o : Option (Option jV × jS)) : Bool := match o with
  | some (none, σ) => σ.1 && (σ.2.1 == n) && (σ.2.2.1 == sl) && (List.range n).all (fun k => decide (σ.2.2.2.1 k = sh k) && (List.range (plc (sh k))).all (fun j => decide (σ.2.2.2.2.1 k j = I k j) && decide (σ.2.2.2.2.2 k j = R k j)))
  | _ => false
set_option maxRecDepth 100000 in
theorem mk_M : chk 15 1920 shM iM rM (run 1000 10 154 0 (iniL (mL 154) [vr 0]) [] sM0) = true := by decide +kernel
def chkn (o : Option (Option jV × jS)) : Bool := match o with
  | some (none, σ) => σ.1 && (σ.2.1 == 125) && (σ.2.2.1 == 2312)
  | _ => false
set_option maxRecDepth 100000 in
theorem mk_X0 : chkn (run 3000 10 109 0 (iniL (mL 109) [vr 0]) [] sX0) = true := by decide +kernel
def chkp (lo n : Nat) (sh : Nat → Nat × Nat) (I : Nat → Int → Int) (R : Nat → Int → Option Nat) (o : Option (Option jV × jS)) : Bool := match o with
  | some (none, σ) => (List.range n).all (fun i => decide (σ.2.2.2.1 (lo + i) = sh (lo + i)) && (List.range (plc (sh (lo + i)))).all (fun j => decide (σ.2.2.2.2.1 (lo + i) j = I (lo + i) j) && decide (σ.2.2.2.2.2 (lo + i) j = R (lo + i) j)))
  | _ => false

set_option maxRecDepth 100000 in
theorem mk_X1 : chkp 0 27 shX iX (rX (fun i => 19 + i.toNat) (fun _ => 8)) (run 3000 10 109 0 (iniL (mL 109) [vr 0]) [] sX0) = true := by decide +kernel

set_option maxRecDepth 100000 in
theorem mk_X2 : chkp 27 25 shX iX (rX (fun i => 19 + i.toNat) (fun _ => 8)) (run 3000 10 109 0 (iniL (mL 109) [vr 0]) [] sX0) = true := by decide +kernel

set_option maxRecDepth 100000 in
theorem mk_X3 : chkp 52 15 shX iX (rX (fun i => 19 + i.toNat) (fun _ => 8)) (run 3000 10 109 0 (iniL (mL 109) [vr 0]) [] sX0) = true := by decide +kernel

set_option maxRecDepth 100000 in
theorem mk_X4 : chkp 67 10 shX iX (rX (fun i => 19 + i.toNat) (fun _ => 8)) (run 3000 10 109 0 (iniL (mL 109) [vr 0]) [] sX0) = true := by decide +kernel

set_option maxRecDepth 100000 in
theorem mk_X5 : chkp 77 10 shX iX (rX (fun i => 19 + i.toNat) (fun _ => 8)) (run 3000 10 109 0 (iniL (mL 109) [vr 0]) [] sX0) = true := by decide +kernel

set_option maxRecDepth 100000 in
theorem mk_X6 : chkp 87 10 shX iX (rX (fun i => 19 + i.toNat) (fun _ => 8)) (run 3000 10 109 0 (iniL (mL 109) [vr 0]) [] sX0) = true := by decide +kernel

set_option maxRecDepth 100000 in
theorem mk_X7 : chkp 97 10 shX iX (rX (fun i => 19 + i.toNat) (fun _ => 8)) (run 3000 10 109 0 (iniL (mL 109) [vr 0]) [] sX0) = true := by decide +kernel

set_option maxRecDepth 100000 in
theorem mk_X8 : chkp 107 10 shX iX (rX (fun i => 19 + i.toNat) (fun _ => 8)) (run 3000 10 109 0 (iniL (mL 109) [vr 0]) [] sX0) = true := by decide +kernel

set_option maxRecDepth 100000 in
theorem mk_X9 : chkp 117 8 shX iX (rX (fun i => 19 + i.toNat) (fun _ => 8)) (run 3000 10 109 0 (iniL (mL 109) [vr 0]) [] sX0) = true := by decide +kernel
end
section
-- 1: ChairPast$Barbers.number:()I, locals 1
theorem l1 : mL 1 = 1 := by decide +kernel
theorem k1_0 : decode (mB 1) 0 = .ok (.iconst 3, 1) := by decide +kernel
theorem k1_1 : decode (mB 1) 1 = .ok (.ireturn, 1) ∧ mR 1 = (some .int) := by decide +kernel
-- 2: ChairPast$Barbers.bearingOn:(LChairPast$Chair;I)I, locals 3
theorem l2 : mL 2 = 3 := by decide +kernel
theorem k2_0 : decode (mB 2) 0 = .ok (.aload_n 1, 1) := by decide +kernel
theorem k2_1 : decode (mB 2) 1 = .ok (.getfield 9, 3) ∧ tF (mO 2) 9 = some (1, 1, 0, 0) := by decide +kernel
theorem k2_4 : decode (mB 2) 4 = .ok (.invokestatic 15, 3) ∧ tM (mO 2) 15 = none ∧ tS (mO 2) 15 = some 5 := by decide +kernel
theorem k2_7 : decode (mB 2) 7 = .ok (.aload_n 1, 1) := by decide +kernel
theorem k2_8 : decode (mB 2) 8 = .ok (.getfield 21, 3) ∧ tF (mO 2) 21 = some (1, 2, 0, 0) := by decide +kernel
theorem k2_11 : decode (mB 2) 11 = .ok (.iload_n 2, 1) := by decide +kernel
theorem k2_12 : decode (mB 2) 12 = .ok (.invokestatic 24, 3) ∧ tM (mO 2) 24 = none ∧ tS (mO 2) 24 = some 58 := by decide +kernel
theorem k2_15 : decode (mB 2) 15 = .ok (.ireturn, 1) ∧ mR 2 = (some .int) := by decide +kernel
-- 3: ChairPast$Barbers.wear:(LChairPast$Chair;)V, locals 2
theorem l3 : mL 3 = 2 := by decide +kernel
theorem k3_0 : decode (mB 3) 0 = .ok (.aload_n 0, 1) := by decide +kernel
theorem k3_1 : decode (mB 3) 1 = .ok (.aload_n 1, 1) := by decide +kernel
theorem k3_2 : decode (mB 3) 2 = .ok (.invokespecial 28, 3) ∧ tB (mO 3) 28 = false ∧ tI (mO 3) 28 = none ∧ tJ (mO 3) 28 = none ∧ tP (mO 3) 28 = some 55 := by decide +kernel
theorem k3_5 : decode (mB 3) 5 = .ok (.aload_n 1, 1) := by decide +kernel
theorem k3_6 : decode (mB 3) 6 = .ok (.aload_n 1, 1) := by decide +kernel
theorem k3_7 : decode (mB 3) 7 = .ok (.getfield 9, 3) ∧ tF (mO 3) 9 = some (1, 1, 0, 0) := by decide +kernel
theorem k3_10 : decode (mB 3) 10 = .ok (.invokestatic 15, 3) ∧ tM (mO 3) 15 = none ∧ tS (mO 3) 15 = some 5 := by decide +kernel
theorem k3_13 : decode (mB 3) 13 = .ok (.putfield 9, 3) ∧ tF (mO 3) 9 = some (1, 1, 0, 0) := by decide +kernel
theorem k3_16 : decode (mB 3) 16 = .ok (.return_, 1) ∧ mR 3 = none := by decide +kernel
-- 4: ChairPast$Barbers.markOf:(LChairPast$Chair;LChairPast$Line;)I, locals 3
theorem l4 : mL 4 = 3 := by decide +kernel
theorem k4_0 : decode (mB 4) 0 = .ok (.aload_n 2, 1) := by decide +kernel
theorem k4_1 : decode (mB 4) 1 = .ok (.bipush 22, 2) := by decide +kernel
theorem k4_3 : decode (mB 4) 3 = .ok (.invokevirtual 32, 3) ∧ tVn (mO 4) 32 = some 1 ∧ tV (mO 4) 32 4 = some 47 := by decide +kernel
theorem k4_6 : decode (mB 4) 6 = .ok (.pop, 1) := by decide +kernel
theorem k4_7 : decode (mB 4) 7 = .ok (.aload_n 0, 1) := by decide +kernel
theorem k4_8 : decode (mB 4) 8 = .ok (.aload_n 1, 1) := by decide +kernel
theorem k4_9 : decode (mB 4) 9 = .ok (.aload_n 2, 1) := by decide +kernel
theorem k4_10 : decode (mB 4) 10 = .ok (.invokespecial 38, 3) ∧ tB (mO 4) 38 = false ∧ tI (mO 4) 38 = none ∧ tJ (mO 4) 38 = none ∧ tP (mO 4) 38 = some 57 := by decide +kernel
theorem k4_13 : decode (mB 4) 13 = .ok (.sipush 1000, 3) := by decide +kernel
theorem k4_16 : decode (mB 4) 16 = .ok (.isub, 1) := by decide +kernel
theorem k4_17 : decode (mB 4) 17 = .ok (.ireturn, 1) ∧ mR 4 = (some .int) := by decide +kernel
-- 5: ChairPast$Barbers.mannerAfter:(I)I, locals 1
theorem l5 : mL 5 = 1 := by decide +kernel
theorem k5_0 : decode (mB 5) 0 = .ok (.iload_n 0, 1) := by decide +kernel
theorem k5_1 : decode (mB 5) 1 = .ok (.iconst 1, 1) := by decide +kernel
theorem k5_2 : decode (mB 5) 2 = .ok (.iadd, 1) := by decide +kernel
theorem k5_3 : decode (mB 5) 3 = .ok (.bipush 10, 2) := by decide +kernel
theorem k5_5 : decode (mB 5) 5 = .ok (.irem, 1) := by decide +kernel
theorem k5_6 : decode (mB 5) 6 = .ok (.ireturn, 1) ∧ mR 5 = (some .int) := by decide +kernel
-- 7: ChairPast$Chair.bearingOf:(I)I, locals 2
theorem l7 : mL 7 = 2 := by decide +kernel
theorem k7_0 : decode (mB 7) 0 = .ok (.aload_n 0, 1) := by decide +kernel
theorem k7_1 : decode (mB 7) 1 = .ok (.getfield 16, 3) ∧ tF (mO 7) 16 = some (1, 0, 1, 0) := by decide +kernel
theorem k7_4 : decode (mB 7) 4 = .ok (.aload_n 0, 1) := by decide +kernel
theorem k7_5 : decode (mB 7) 5 = .ok (.iload_n 1, 1) := by decide +kernel
theorem k7_6_5 : decode (mB 7) 6 = .ok (.invokevirtual 20, 3) ∧ tVn (mO 7) 20 = some 2 ∧ tV (mO 7) 20 5 = some 54 := by decide +kernel
theorem k7_6_7 : decode (mB 7) 6 = .ok (.invokevirtual 20, 3) ∧ tVn (mO 7) 20 = some 2 ∧ tV (mO 7) 20 7 = some 76 := by decide +kernel
theorem k7_6_0 : decode (mB 7) 6 = .ok (.invokevirtual 20, 3) ∧ tVn (mO 7) 20 = some 2 ∧ tV (mO 7) 20 0 = some 2 := by decide +kernel
theorem k7_6_9 : decode (mB 7) 6 = .ok (.invokevirtual 20, 3) ∧ tVn (mO 7) 20 = some 2 ∧ tV (mO 7) 20 9 = some 105 := by decide +kernel
theorem k7_6_2 : decode (mB 7) 6 = .ok (.invokevirtual 20, 3) ∧ tVn (mO 7) 20 = some 2 ∧ tV (mO 7) 20 2 = some 15 := by decide +kernel
theorem k7_9 : decode (mB 7) 9 = .ok (.ireturn, 1) ∧ mR 7 = (some .int) := by decide +kernel
-- 8: ChairPast$Chair.bear:(II)I, locals 4
theorem l8 : mL 8 = 4 := by decide +kernel
theorem k8_0 : decode (mB 8) 0 = .ok (.aload_n 0, 1) := by decide +kernel
theorem k8_1 : decode (mB 8) 1 = .ok (.getfield 16, 3) ∧ tF (mO 8) 16 = some (1, 0, 1, 0) := by decide +kernel
theorem k8_4 : decode (mB 8) 4 = .ok (.aload_n 0, 1) := by decide +kernel
theorem k8_5 : decode (mB 8) 5 = .ok (.iload_n 1, 1) := by decide +kernel
theorem k8_6_5 : decode (mB 8) 6 = .ok (.invokevirtual 20, 3) ∧ tVn (mO 8) 20 = some 2 ∧ tV (mO 8) 20 5 = some 54 := by decide +kernel
theorem k8_6_7 : decode (mB 8) 6 = .ok (.invokevirtual 20, 3) ∧ tVn (mO 8) 20 = some 2 ∧ tV (mO 8) 20 7 = some 76 := by decide +kernel
theorem k8_6_0 : decode (mB 8) 6 = .ok (.invokevirtual 20, 3) ∧ tVn (mO 8) 20 = some 2 ∧ tV (mO 8) 20 0 = some 2 := by decide +kernel
theorem k8_6_9 : decode (mB 8) 6 = .ok (.invokevirtual 20, 3) ∧ tVn (mO 8) 20 = some 2 ∧ tV (mO 8) 20 9 = some 105 := by decide +kernel
theorem k8_6_2 : decode (mB 8) 6 = .ok (.invokevirtual 20, 3) ∧ tVn (mO 8) 20 = some 2 ∧ tV (mO 8) 20 2 = some 15 := by decide +kernel
theorem k8_9 : decode (mB 8) 9 = .ok (.istore_n 3, 1) := by decide +kernel
theorem k8_10 : decode (mB 8) 10 = .ok (.aload_n 0, 1) := by decide +kernel
theorem k8_11 : decode (mB 8) 11 = .ok (.aload_n 0, 1) := by decide +kernel
theorem k8_12 : decode (mB 8) 12 = .ok (.getfield 26, 3) ∧ tF (mO 8) 26 = some (1, 4, 0, 0) := by decide +kernel
theorem k8_15 : decode (mB 8) 15 = .ok (.iconst 1, 1) := by decide +kernel
theorem k8_16 : decode (mB 8) 16 = .ok (.iadd, 1) := by decide +kernel
theorem k8_17 : decode (mB 8) 17 = .ok (.sipush 999, 3) := by decide +kernel
theorem k8_20 : decode (mB 8) 20 = .ok (.invokestatic 29, 3) ∧ tM (mO 8) 29 = some 4 := by decide +kernel
theorem k8_23 : decode (mB 8) 23 = .ok (.putfield 26, 3) ∧ tF (mO 8) 26 = some (1, 4, 0, 0) := by decide +kernel
theorem k8_26 : decode (mB 8) 26 = .ok (.aload_n 0, 1) := by decide +kernel
theorem k8_27 : decode (mB 8) 27 = .ok (.getfield 16, 3) ∧ tF (mO 8) 16 = some (1, 0, 1, 0) := by decide +kernel
theorem k8_30 : decode (mB 8) 30 = .ok (.aload_n 0, 1) := by decide +kernel
theorem k8_31_5 : decode (mB 8) 31 = .ok (.invokevirtual 35, 3) ∧ tVn (mO 8) 35 = some 1 ∧ tV (mO 8) 35 5 = some 55 := by decide +kernel
theorem k8_31_7 : decode (mB 8) 31 = .ok (.invokevirtual 35, 3) ∧ tVn (mO 8) 35 = some 1 ∧ tV (mO 8) 35 7 = some 55 := by decide +kernel
theorem k8_31_0 : decode (mB 8) 31 = .ok (.invokevirtual 35, 3) ∧ tVn (mO 8) 35 = some 1 ∧ tV (mO 8) 35 0 = some 3 := by decide +kernel
theorem k8_31_9 : decode (mB 8) 31 = .ok (.invokevirtual 35, 3) ∧ tVn (mO 8) 35 = some 1 ∧ tV (mO 8) 35 9 = some 106 := by decide +kernel
theorem k8_31_2 : decode (mB 8) 31 = .ok (.invokevirtual 35, 3) ∧ tVn (mO 8) 35 = some 1 ∧ tV (mO 8) 35 2 = some 106 := by decide +kernel
theorem k8_34 : decode (mB 8) 34 = .ok (.aload_n 0, 1) := by decide +kernel
theorem k8_35 : decode (mB 8) 35 = .ok (.getfield 39, 3) ∧ tF (mO 8) 39 = some (1, 2, 0, 0) := by decide +kernel
theorem k8_38 : decode (mB 8) 38 = .ok (.iload_n 2, 1) := by decide +kernel
theorem k8_39 : decode (mB 8) 39 = .ok (.if_icmp .ge 14, 3) := by decide +kernel
theorem k8_42 : decode (mB 8) 42 = .ok (.aload_n 0, 1) := by decide +kernel
theorem k8_43 : decode (mB 8) 43 = .ok (.iload_n 1, 1) := by decide +kernel
theorem k8_44 : decode (mB 8) 44 = .ok (.putfield 42, 3) ∧ tF (mO 8) 42 = some (1, 1, 0, 0) := by decide +kernel
theorem k8_47 : decode (mB 8) 47 = .ok (.aload_n 0, 1) := by decide +kernel
theorem k8_48 : decode (mB 8) 48 = .ok (.bipush 16, 2) := by decide +kernel
theorem k8_50 : decode (mB 8) 50 = .ok (.putfield 39, 3) ∧ tF (mO 8) 39 = some (1, 2, 0, 0) := by decide +kernel
theorem k8_53 : decode (mB 8) 53 = .ok (.iload_n 3, 1) := by decide +kernel
theorem k8_54 : decode (mB 8) 54 = .ok (.ireturn, 1) ∧ mR 8 = (some .int) := by decide +kernel
-- 9: ChairPast$Chair.isLike:(II)Z, locals 3
theorem l9 : mL 9 = 3 := by decide +kernel
theorem k9_0 : decode (mB 9) 0 = .ok (.aload_n 0, 1) := by decide +kernel
theorem k9_1 : decode (mB 9) 1 = .ok (.getfield 42, 3) ∧ tF (mO 9) 42 = some (1, 1, 0, 0) := by decide +kernel
theorem k9_4 : decode (mB 9) 4 = .ok (.iload_n 1, 1) := by decide +kernel
theorem k9_5 : decode (mB 9) 5 = .ok (.if_icmp .ne 15, 3) := by decide +kernel
theorem k9_8 : decode (mB 9) 8 = .ok (.aload_n 0, 1) := by decide +kernel
theorem k9_9 : decode (mB 9) 9 = .ok (.getfield 39, 3) ∧ tF (mO 9) 39 = some (1, 2, 0, 0) := by decide +kernel
theorem k9_12 : decode (mB 9) 12 = .ok (.iload_n 2, 1) := by decide +kernel
theorem k9_13 : decode (mB 9) 13 = .ok (.if_icmp .ne 7, 3) := by decide +kernel
theorem k9_16 : decode (mB 9) 16 = .ok (.iconst 1, 1) := by decide +kernel
theorem k9_17 : decode (mB 9) 17 = .ok (.goto 4, 3) := by decide +kernel
theorem k9_20 : decode (mB 9) 20 = .ok (.iconst 0, 1) := by decide +kernel
theorem k9_21 : decode (mB 9) 21 = .ok (.ireturn, 1) ∧ mR 9 = (some .boolean) := by decide +kernel
-- 10: ChairPast$Chair.takeAfter:(LChairPast$Chair;)V, locals 2
theorem l10 : mL 10 = 2 := by decide +kernel
theorem k10_0 : decode (mB 10) 0 = .ok (.aload_n 0, 1) := by decide +kernel
theorem k10_1 : decode (mB 10) 1 = .ok (.aload_n 1, 1) := by decide +kernel
theorem k10_2 : decode (mB 10) 2 = .ok (.getfield 16, 3) ∧ tF (mO 10) 16 = some (1, 0, 1, 0) := by decide +kernel
theorem k10_5 : decode (mB 10) 5 = .ok (.putfield 16, 3) ∧ tF (mO 10) 16 = some (1, 0, 1, 0) := by decide +kernel
theorem k10_8 : decode (mB 10) 8 = .ok (.aload_n 0, 1) := by decide +kernel
theorem k10_9 : decode (mB 10) 9 = .ok (.aload_n 1, 1) := by decide +kernel
theorem k10_10 : decode (mB 10) 10 = .ok (.getfield 42, 3) ∧ tF (mO 10) 42 = some (1, 1, 0, 0) := by decide +kernel
theorem k10_13 : decode (mB 10) 13 = .ok (.putfield 42, 3) ∧ tF (mO 10) 42 = some (1, 1, 0, 0) := by decide +kernel
theorem k10_16 : decode (mB 10) 16 = .ok (.aload_n 0, 1) := by decide +kernel
theorem k10_17 : decode (mB 10) 17 = .ok (.aload_n 1, 1) := by decide +kernel
theorem k10_18 : decode (mB 10) 18 = .ok (.getfield 39, 3) ∧ tF (mO 10) 39 = some (1, 2, 0, 0) := by decide +kernel
theorem k10_21 : decode (mB 10) 21 = .ok (.putfield 39, 3) ∧ tF (mO 10) 39 = some (1, 2, 0, 0) := by decide +kernel
theorem k10_24 : decode (mB 10) 24 = .ok (.aload_n 0, 1) := by decide +kernel
theorem k10_25 : decode (mB 10) 25 = .ok (.aload_n 1, 1) := by decide +kernel
theorem k10_26 : decode (mB 10) 26 = .ok (.getfield 45, 3) ∧ tF (mO 10) 45 = some (1, 3, 0, 0) := by decide +kernel
theorem k10_29 : decode (mB 10) 29 = .ok (.putfield 45, 3) ∧ tF (mO 10) 45 = some (1, 3, 0, 0) := by decide +kernel
theorem k10_32 : decode (mB 10) 32 = .ok (.aload_n 0, 1) := by decide +kernel
theorem k10_33 : decode (mB 10) 33 = .ok (.aload_n 1, 1) := by decide +kernel
theorem k10_34 : decode (mB 10) 34 = .ok (.getfield 26, 3) ∧ tF (mO 10) 26 = some (1, 4, 0, 0) := by decide +kernel
theorem k10_37 : decode (mB 10) 37 = .ok (.putfield 26, 3) ∧ tF (mO 10) 26 = some (1, 4, 0, 0) := by decide +kernel
theorem k10_40 : decode (mB 10) 40 = .ok (.aload_n 0, 1) := by decide +kernel
theorem k10_41 : decode (mB 10) 41 = .ok (.aload_n 1, 1) := by decide +kernel
theorem k10_42 : decode (mB 10) 42 = .ok (.getfield 10, 3) ∧ tF (mO 10) 10 = some (1, 5, 0, 0) := by decide +kernel
theorem k10_45 : decode (mB 10) 45 = .ok (.putfield 10, 3) ∧ tF (mO 10) 10 = some (1, 5, 0, 0) := by decide +kernel
theorem k10_48 : decode (mB 10) 48 = .ok (.return_, 1) ∧ mR 10 = none := by decide +kernel
-- 11: ChairPast$Chair.writeTo:(LChairPast$Line;)V, locals 2
theorem l11 : mL 11 = 2 := by decide +kernel
theorem k11_0 : decode (mB 11) 0 = .ok (.aload_n 1, 1) := by decide +kernel
theorem k11_1 : decode (mB 11) 1 = .ok (.aload_n 0, 1) := by decide +kernel
theorem k11_2 : decode (mB 11) 2 = .ok (.getfield 16, 3) ∧ tF (mO 11) 16 = some (1, 0, 1, 0) := by decide +kernel
theorem k11_5_5 : decode (mB 11) 5 = .ok (.invokevirtual 48, 3) ∧ tVn (mO 11) 48 = some 0 ∧ tV (mO 11) 48 5 = some 53 := by decide +kernel
theorem k11_5_7 : decode (mB 11) 5 = .ok (.invokevirtual 48, 3) ∧ tVn (mO 11) 48 = some 0 ∧ tV (mO 11) 48 7 = some 75 := by decide +kernel
theorem k11_5_0 : decode (mB 11) 5 = .ok (.invokevirtual 48, 3) ∧ tVn (mO 11) 48 = some 0 ∧ tV (mO 11) 48 0 = some 1 := by decide +kernel
theorem k11_5_9 : decode (mB 11) 5 = .ok (.invokevirtual 48, 3) ∧ tVn (mO 11) 48 = some 0 ∧ tV (mO 11) 48 9 = some 104 := by decide +kernel
theorem k11_5_2 : decode (mB 11) 5 = .ok (.invokevirtual 48, 3) ∧ tVn (mO 11) 48 = some 0 ∧ tV (mO 11) 48 2 = some 14 := by decide +kernel
theorem k11_8 : decode (mB 11) 8 = .ok (.invokevirtual 52, 3) ∧ tVn (mO 11) 52 = some 1 ∧ tV (mO 11) 52 4 = some 47 := by decide +kernel
theorem k11_11 : decode (mB 11) 11 = .ok (.pop, 1) := by decide +kernel
theorem k11_12 : decode (mB 11) 12 = .ok (.aload_n 1, 1) := by decide +kernel
theorem k11_13 : decode (mB 11) 13 = .ok (.aload_n 0, 1) := by decide +kernel
theorem k11_14 : decode (mB 11) 14 = .ok (.getfield 42, 3) ∧ tF (mO 11) 42 = some (1, 1, 0, 0) := by decide +kernel
theorem k11_17 : decode (mB 11) 17 = .ok (.invokevirtual 52, 3) ∧ tVn (mO 11) 52 = some 1 ∧ tV (mO 11) 52 4 = some 47 := by decide +kernel
theorem k11_20 : decode (mB 11) 20 = .ok (.pop, 1) := by decide +kernel
theorem k11_21 : decode (mB 11) 21 = .ok (.aload_n 1, 1) := by decide +kernel
theorem k11_22 : decode (mB 11) 22 = .ok (.aload_n 0, 1) := by decide +kernel
theorem k11_23 : decode (mB 11) 23 = .ok (.getfield 39, 3) ∧ tF (mO 11) 39 = some (1, 2, 0, 0) := by decide +kernel
theorem k11_26 : decode (mB 11) 26 = .ok (.invokevirtual 52, 3) ∧ tVn (mO 11) 52 = some 1 ∧ tV (mO 11) 52 4 = some 47 := by decide +kernel
theorem k11_29 : decode (mB 11) 29 = .ok (.pop, 1) := by decide +kernel
theorem k11_30 : decode (mB 11) 30 = .ok (.aload_n 1, 1) := by decide +kernel
theorem k11_31 : decode (mB 11) 31 = .ok (.aload_n 0, 1) := by decide +kernel
theorem k11_32 : decode (mB 11) 32 = .ok (.getfield 45, 3) ∧ tF (mO 11) 45 = some (1, 3, 0, 0) := by decide +kernel
theorem k11_35 : decode (mB 11) 35 = .ok (.invokevirtual 52, 3) ∧ tVn (mO 11) 52 = some 1 ∧ tV (mO 11) 52 4 = some 47 := by decide +kernel
theorem k11_38 : decode (mB 11) 38 = .ok (.pop, 1) := by decide +kernel
theorem k11_39 : decode (mB 11) 39 = .ok (.aload_n 1, 1) := by decide +kernel
theorem k11_40 : decode (mB 11) 40 = .ok (.aload_n 0, 1) := by decide +kernel
theorem k11_41 : decode (mB 11) 41 = .ok (.getfield 26, 3) ∧ tF (mO 11) 26 = some (1, 4, 0, 0) := by decide +kernel
theorem k11_44 : decode (mB 11) 44 = .ok (.invokevirtual 52, 3) ∧ tVn (mO 11) 52 = some 1 ∧ tV (mO 11) 52 4 = some 47 := by decide +kernel
theorem k11_47 : decode (mB 11) 47 = .ok (.pop, 1) := by decide +kernel
theorem k11_48 : decode (mB 11) 48 = .ok (.aload_n 1, 1) := by decide +kernel
theorem k11_49 : decode (mB 11) 49 = .ok (.aload_n 0, 1) := by decide +kernel
theorem k11_50 : decode (mB 11) 50 = .ok (.getfield 10, 3) ∧ tF (mO 11) 10 = some (1, 5, 0, 0) := by decide +kernel
theorem k11_53 : decode (mB 11) 53 = .ok (.invokevirtual 52, 3) ∧ tVn (mO 11) 52 = some 1 ∧ tV (mO 11) 52 4 = some 47 := by decide +kernel
theorem k11_56 : decode (mB 11) 56 = .ok (.pop, 1) := by decide +kernel
theorem k11_57 : decode (mB 11) 57 = .ok (.return_, 1) ∧ mR 11 = none := by decide +kernel
-- 12: ChairPast$Chair.readFrom:(LChairPast$Line;[LChairPast$Kind;)V, locals 4
theorem l12 : mL 12 = 4 := by decide +kernel
theorem k12_0 : decode (mB 12) 0 = .ok (.aload_n 1, 1) := by decide +kernel
theorem k12_1 : decode (mB 12) 1 = .ok (.invokevirtual 58, 3) ∧ tVn (mO 12) 58 = some 0 ∧ tV (mO 12) 58 4 = some 51 := by decide +kernel
theorem k12_4 : decode (mB 12) 4 = .ok (.istore_n 3, 1) := by decide +kernel
theorem k12_5 : decode (mB 12) 5 = .ok (.iload_n 3, 1) := by decide +kernel
theorem k12_6 : decode (mB 12) 6 = .ok (.iconst 1, 1) := by decide +kernel
theorem k12_7 : decode (mB 12) 7 = .ok (.if_icmp .lt 18, 3) := by decide +kernel
theorem k12_10 : decode (mB 12) 10 = .ok (.iload_n 3, 1) := by decide +kernel
theorem k12_11 : decode (mB 12) 11 = .ok (.aload_n 2, 1) := by decide +kernel
theorem k12_12 : decode (mB 12) 12 = .ok (.arraylength, 1) := by decide +kernel
theorem k12_13 : decode (mB 12) 13 = .ok (.if_icmp .gt 12, 3) := by decide +kernel
theorem k12_16 : decode (mB 12) 16 = .ok (.aload_n 0, 1) := by decide +kernel
theorem k12_17 : decode (mB 12) 17 = .ok (.aload_n 2, 1) := by decide +kernel
theorem k12_18 : decode (mB 12) 18 = .ok (.iload_n 3, 1) := by decide +kernel
theorem k12_19 : decode (mB 12) 19 = .ok (.iconst 1, 1) := by decide +kernel
theorem k12_20 : decode (mB 12) 20 = .ok (.isub, 1) := by decide +kernel
theorem k12_21 : decode (mB 12) 21 = .ok (.aaload, 1) := by decide +kernel
theorem k12_22 : decode (mB 12) 22 = .ok (.putfield 16, 3) ∧ tF (mO 12) 16 = some (1, 0, 1, 0) := by decide +kernel
theorem k12_25 : decode (mB 12) 25 = .ok (.aload_n 0, 1) := by decide +kernel
theorem k12_26 : decode (mB 12) 26 = .ok (.aload_n 1, 1) := by decide +kernel
theorem k12_27 : decode (mB 12) 27 = .ok (.invokevirtual 58, 3) ∧ tVn (mO 12) 58 = some 0 ∧ tV (mO 12) 58 4 = some 51 := by decide +kernel
theorem k12_30 : decode (mB 12) 30 = .ok (.putfield 42, 3) ∧ tF (mO 12) 42 = some (1, 1, 0, 0) := by decide +kernel
theorem k12_33 : decode (mB 12) 33 = .ok (.aload_n 0, 1) := by decide +kernel
theorem k12_34 : decode (mB 12) 34 = .ok (.aload_n 1, 1) := by decide +kernel
theorem k12_35 : decode (mB 12) 35 = .ok (.invokevirtual 58, 3) ∧ tVn (mO 12) 58 = some 0 ∧ tV (mO 12) 58 4 = some 51 := by decide +kernel
theorem k12_38 : decode (mB 12) 38 = .ok (.putfield 39, 3) ∧ tF (mO 12) 39 = some (1, 2, 0, 0) := by decide +kernel
theorem k12_41 : decode (mB 12) 41 = .ok (.aload_n 0, 1) := by decide +kernel
theorem k12_42 : decode (mB 12) 42 = .ok (.aload_n 1, 1) := by decide +kernel
theorem k12_43 : decode (mB 12) 43 = .ok (.invokevirtual 58, 3) ∧ tVn (mO 12) 58 = some 0 ∧ tV (mO 12) 58 4 = some 51 := by decide +kernel
theorem k12_46 : decode (mB 12) 46 = .ok (.putfield 45, 3) ∧ tF (mO 12) 45 = some (1, 3, 0, 0) := by decide +kernel
theorem k12_49 : decode (mB 12) 49 = .ok (.aload_n 0, 1) := by decide +kernel
theorem k12_50 : decode (mB 12) 50 = .ok (.aload_n 1, 1) := by decide +kernel
theorem k12_51 : decode (mB 12) 51 = .ok (.invokevirtual 58, 3) ∧ tVn (mO 12) 58 = some 0 ∧ tV (mO 12) 58 4 = some 51 := by decide +kernel
theorem k12_54 : decode (mB 12) 54 = .ok (.putfield 26, 3) ∧ tF (mO 12) 26 = some (1, 4, 0, 0) := by decide +kernel
theorem k12_57 : decode (mB 12) 57 = .ok (.aload_n 0, 1) := by decide +kernel
theorem k12_58 : decode (mB 12) 58 = .ok (.aload_n 1, 1) := by decide +kernel
theorem k12_59 : decode (mB 12) 59 = .ok (.invokevirtual 58, 3) ∧ tVn (mO 12) 58 = some 0 ∧ tV (mO 12) 58 4 = some 51 := by decide +kernel
theorem k12_62 : decode (mB 12) 62 = .ok (.putfield 10, 3) ∧ tF (mO 12) 10 = some (1, 5, 0, 0) := by decide +kernel
theorem k12_65 : decode (mB 12) 65 = .ok (.return_, 1) ∧ mR 12 = none := by decide +kernel
-- 14: ChairPast$Dentists.number:()I, locals 1
theorem l14 : mL 14 = 1 := by decide +kernel
theorem k14_0 : decode (mB 14) 0 = .ok (.iconst 5, 1) := by decide +kernel
theorem k14_1 : decode (mB 14) 1 = .ok (.ireturn, 1) ∧ mR 14 = (some .int) := by decide +kernel
-- 15: ChairPast$Dentists.bearingOn:(LChairPast$Chair;I)I, locals 3
theorem l15 : mL 15 = 3 := by decide +kernel
theorem k15_0 : decode (mB 15) 0 = .ok (.aload_n 0, 1) := by decide +kernel
theorem k15_1 : decode (mB 15) 1 = .ok (.aload_n 1, 1) := by decide +kernel
theorem k15_2 : decode (mB 15) 2 = .ok (.iload_n 2, 1) := by decide +kernel
theorem k15_3 : decode (mB 15) 3 = .ok (.invokespecial 7, 3) ∧ tB (mO 15) 7 = false ∧ tI (mO 15) 7 = none ∧ tJ (mO 15) 7 = none ∧ tP (mO 15) 7 = some 105 := by decide +kernel
theorem k15_6 : decode (mB 15) 6 = .ok (.iconst 5, 1) := by decide +kernel
theorem k15_7 : decode (mB 15) 7 = .ok (.invokestatic 13, 3) ∧ tM (mO 15) 13 = some 3 := by decide +kernel
theorem k15_10 : decode (mB 15) 10 = .ok (.ireturn, 1) ∧ mR 15 = (some .int) := by decide +kernel
-- 16: ChairPast$Dentists.sizeOf:(LChairPast$Chair;LChairPast$Line;)I, locals 3
theorem l16 : mL 16 = 3 := by decide +kernel
theorem k16_0 : decode (mB 16) 0 = .ok (.aload_n 2, 1) := by decide +kernel
theorem k16_1 : decode (mB 16) 1 = .ok (.bipush 14, 2) := by decide +kernel
theorem k16_3 : decode (mB 16) 3 = .ok (.invokevirtual 19, 3) ∧ tVn (mO 16) 19 = some 1 ∧ tV (mO 16) 19 4 = some 47 := by decide +kernel
theorem k16_6 : decode (mB 16) 6 = .ok (.pop, 1) := by decide +kernel
theorem k16_7 : decode (mB 16) 7 = .ok (.iconst 2, 1) := by decide +kernel
theorem k16_8 : decode (mB 16) 8 = .ok (.aload_n 0, 1) := by decide +kernel
theorem k16_9 : decode (mB 16) 9 = .ok (.aload_n 1, 1) := by decide +kernel
theorem k16_10 : decode (mB 16) 10 = .ok (.aload_n 2, 1) := by decide +kernel
theorem k16_11 : decode (mB 16) 11 = .ok (.invokespecial 25, 3) ∧ tB (mO 16) 25 = false ∧ tI (mO 16) 25 = none ∧ tJ (mO 16) 25 = none ∧ tP (mO 16) 25 = some 107 := by decide +kernel
theorem k16_14 : decode (mB 16) 14 = .ok (.imul, 1) := by decide +kernel
theorem k16_15 : decode (mB 16) 15 = .ok (.ireturn, 1) ∧ mR 16 = (some .int) := by decide +kernel
-- 18: ChairPast$Foresight.startTrial:()V, locals 1
theorem l18 : mL 18 = 1 := by decide +kernel
theorem k18_0 : decode (mB 18) 0 = .ok (.aload_n 0, 1) := by decide +kernel
theorem k18_1 : decode (mB 18) 1 = .ok (.getfield 27, 3) ∧ tF (mO 18) 27 = some (3, 0, 1, 1) := by decide +kernel
theorem k18_4 : decode (mB 18) 4 = .ok (.aload_n 0, 1) := by decide +kernel
theorem k18_5 : decode (mB 18) 5 = .ok (.getfield 14, 3) ∧ tF (mO 18) 14 = some (3, 4, 1, 1) := by decide +kernel
theorem k18_8 : decode (mB 18) 8 = .ok (.invokevirtual 52, 3) ∧ tVn (mO 18) 52 = some 1 ∧ tV (mO 18) 52 8 = some 101 := by decide +kernel
theorem k18_11 : decode (mB 18) 11 = .ok (.aload_n 0, 1) := by decide +kernel
theorem k18_12 : decode (mB 18) 12 = .ok (.getfield 40, 3) ∧ tF (mO 18) 40 = some (3, 1, 1, 1) := by decide +kernel
theorem k18_15 : decode (mB 18) 15 = .ok (.aload_n 0, 1) := by decide +kernel
theorem k18_16 : decode (mB 18) 16 = .ok (.getfield 14, 3) ∧ tF (mO 18) 14 = some (3, 4, 1, 1) := by decide +kernel
theorem k18_19 : decode (mB 18) 19 = .ok (.invokevirtual 56, 3) ∧ tVn (mO 18) 56 = some 1 ∧ tV (mO 18) 56 8 = some 102 := by decide +kernel
theorem k18_22 : decode (mB 18) 22 = .ok (.return_, 1) ∧ mR 18 = none := by decide +kernel
-- 19: ChairPast$Foresight.bearOnStool:(I)I, locals 2
theorem l19 : mL 19 = 2 := by decide +kernel
theorem k19_0 : decode (mB 19) 0 = .ok (.aload_n 0, 1) := by decide +kernel
theorem k19_1 : decode (mB 19) 1 = .ok (.getfield 48, 3) ∧ tF (mO 19) 48 = some (3, 3, 1, 1) := by decide +kernel
theorem k19_4 : decode (mB 19) 4 = .ok (.aload_n 0, 1) := by decide +kernel
theorem k19_5 : decode (mB 19) 5 = .ok (.getfield 27, 3) ∧ tF (mO 19) 27 = some (3, 0, 1, 1) := by decide +kernel
theorem k19_8 : decode (mB 19) 8 = .ok (.getfield 59, 3) ∧ tF (mO 19) 59 = some (8, 2, 1, 1) := by decide +kernel
theorem k19_11 : decode (mB 19) 11 = .ok (.iload_n 1, 1) := by decide +kernel
theorem k19_12 : decode (mB 19) 12 = .ok (.iaload, 1) := by decide +kernel
theorem k19_13 : decode (mB 19) 13 = .ok (.aload_n 0, 1) := by decide +kernel
theorem k19_14 : decode (mB 19) 14 = .ok (.getfield 27, 3) ∧ tF (mO 19) 27 = some (3, 0, 1, 1) := by decide +kernel
theorem k19_17 : decode (mB 19) 17 = .ok (.getfield 62, 3) ∧ tF (mO 19) 62 = some (8, 3, 1, 1) := by decide +kernel
theorem k19_20 : decode (mB 19) 20 = .ok (.iload_n 1, 1) := by decide +kernel
theorem k19_21 : decode (mB 19) 21 = .ok (.iaload, 1) := by decide +kernel
theorem k19_22 : decode (mB 19) 22 = .ok (.invokevirtual 65, 3) ∧ tVn (mO 19) 65 = some 2 ∧ tV (mO 19) 65 1 = some 8 := by decide +kernel
theorem k19_25 : decode (mB 19) 25 = .ok (.ireturn, 1) ∧ mR 19 = (some .int) := by decide +kernel
-- 20: ChairPast$Foresight.wouldBe:(III)I, locals 5
theorem l20 : mL 20 = 5 := by decide +kernel
theorem k20_0 : decode (mB 20) 0 = .ok (.aload_n 0, 1) := by decide +kernel
theorem k20_1 : decode (mB 20) 1 = .ok (.getfield 48, 3) ∧ tF (mO 20) 48 = some (3, 3, 1, 1) := by decide +kernel
theorem k20_4 : decode (mB 20) 4 = .ok (.aload_n 0, 1) := by decide +kernel
theorem k20_5 : decode (mB 20) 5 = .ok (.getfield 27, 3) ∧ tF (mO 20) 27 = some (3, 0, 1, 1) := by decide +kernel
theorem k20_8 : decode (mB 20) 8 = .ok (.getfield 69, 3) ∧ tF (mO 20) 69 = some (8, 1, 1, 1) := by decide +kernel
theorem k20_11 : decode (mB 20) 11 = .ok (.iload_n 2, 1) := by decide +kernel
theorem k20_12 : decode (mB 20) 12 = .ok (.aaload, 1) := by decide +kernel
theorem k20_13 : decode (mB 20) 13 = .ok (.invokevirtual 73, 3) ∧ tVn (mO 20) 73 = some 1 ∧ tV (mO 20) 73 1 = some 10 := by decide +kernel
theorem k20_16 : decode (mB 20) 16 = .ok (.aload_n 0, 1) := by decide +kernel
theorem k20_17 : decode (mB 20) 17 = .ok (.iload_n 1, 1) := by decide +kernel
theorem k20_18 : decode (mB 20) 18 = .ok (.invokevirtual 77, 3) ∧ tVn (mO 20) 77 = some 1 ∧ tV (mO 20) 77 3 = some 19 := by decide +kernel
theorem k20_21 : decode (mB 20) 21 = .ok (.istore 4, 2) := by decide +kernel
theorem k20_23 : decode (mB 20) 23 = .ok (.iload_n 3, 1) := by decide +kernel
theorem k20_24 : decode (mB 20) 24 = .ok (.lookupswitch 39 #[(0, 28), (1, 31)], 28) := by decide +kernel
theorem k20_52 : decode (mB 20) 52 = .ok (.iload 4, 2) := by decide +kernel
theorem k20_54 : decode (mB 20) 54 = .ok (.ireturn, 1) ∧ mR 20 = (some .int) := by decide +kernel
theorem k20_55 : decode (mB 20) 55 = .ok (.aload_n 0, 1) := by decide +kernel
theorem k20_56 : decode (mB 20) 56 = .ok (.getfield 48, 3) ∧ tF (mO 20) 48 = some (3, 3, 1, 1) := by decide +kernel
theorem k20_59 : decode (mB 20) 59 = .ok (.getfield 81, 3) ∧ tF (mO 20) 81 = some (1, 1, 0, 0) := by decide +kernel
theorem k20_62 : decode (mB 20) 62 = .ok (.ireturn, 1) ∧ mR 20 = (some .int) := by decide +kernel
theorem k20_63 : decode (mB 20) 63 = .ok (.aload_n 0, 1) := by decide +kernel
theorem k20_64 : decode (mB 20) 64 = .ok (.getfield 48, 3) ∧ tF (mO 20) 48 = some (3, 3, 1, 1) := by decide +kernel
theorem k20_67 : decode (mB 20) 67 = .ok (.getfield 85, 3) ∧ tF (mO 20) 85 = some (1, 2, 0, 0) := by decide +kernel
theorem k20_70 : decode (mB 20) 70 = .ok (.ireturn, 1) ∧ mR 20 = (some .int) := by decide +kernel
-- 21: ChairPast$Foresight.bestSeating:(I)I, locals 4
theorem l21 : mL 21 = 4 := by decide +kernel
theorem k21_0 : decode (mB 21) 0 = .ok (.aload_n 0, 1) := by decide +kernel
theorem k21_1 : decode (mB 21) 1 = .ok (.getfield 27, 3) ∧ tF (mO 21) 27 = some (3, 0, 1, 1) := by decide +kernel
theorem k21_4 : decode (mB 21) 4 = .ok (.getfield 88, 3) ∧ tF (mO 21) 88 = some (8, 7, 0, 0) := by decide +kernel
theorem k21_7 : decode (mB 21) 7 = .ok (.aload_n 0, 1) := by decide +kernel
theorem k21_8 : decode (mB 21) 8 = .ok (.getfield 27, 3) ∧ tF (mO 21) 27 = some (3, 0, 1, 1) := by decide +kernel
theorem k21_11 : decode (mB 21) 11 = .ok (.invokevirtual 91, 3) ∧ tVn (mO 21) 91 = some 0 ∧ tV (mO 21) 91 8 = some 98 := by decide +kernel
theorem k21_14 : decode (mB 21) 14 = .ok (.invokestatic 95, 3) ∧ tM (mO 21) 95 = some 1 := by decide +kernel
theorem k21_17 : decode (mB 21) 17 = .ok (.isub, 1) := by decide +kernel
theorem k21_18 : decode (mB 21) 18 = .ok (.istore_n 2, 1) := by decide +kernel
theorem k21_19 : decode (mB 21) 19 = .ok (.aload_n 0, 1) := by decide +kernel
theorem k21_20 : decode (mB 21) 20 = .ok (.getfield 27, 3) ∧ tF (mO 21) 27 = some (3, 0, 1, 1) := by decide +kernel
theorem k21_23 : decode (mB 21) 23 = .ok (.getfield 100, 3) ∧ tF (mO 21) 100 = some (8, 6, 0, 0) := by decide +kernel
theorem k21_26 : decode (mB 21) 26 = .ok (.aload_n 0, 1) := by decide +kernel
theorem k21_27 : decode (mB 21) 27 = .ok (.getfield 27, 3) ∧ tF (mO 21) 27 = some (3, 0, 1, 1) := by decide +kernel
theorem k21_30 : decode (mB 21) 30 = .ok (.invokevirtual 103, 3) ∧ tVn (mO 21) 103 = some 0 ∧ tV (mO 21) 103 8 = some 99 := by decide +kernel
theorem k21_33 : decode (mB 21) 33 = .ok (.invokestatic 95, 3) ∧ tM (mO 21) 95 = some 1 := by decide +kernel
theorem k21_36 : decode (mB 21) 36 = .ok (.isub, 1) := by decide +kernel
theorem k21_37 : decode (mB 21) 37 = .ok (.istore_n 3, 1) := by decide +kernel
theorem k21_38 : decode (mB 21) 38 = .ok (.iload_n 2, 1) := by decide +kernel
theorem k21_39 : decode (mB 21) 39 = .ok (.iload_n 3, 1) := by decide +kernel
theorem k21_40 : decode (mB 21) 40 = .ok (.if_icmp .gt 14, 3) := by decide +kernel
theorem k21_43 : decode (mB 21) 43 = .ok (.iload_n 1, 1) := by decide +kernel
theorem k21_44 : decode (mB 21) 44 = .ok (.aload_n 0, 1) := by decide +kernel
theorem k21_45 : decode (mB 21) 45 = .ok (.getfield 27, 3) ∧ tF (mO 21) 27 = some (3, 0, 1, 1) := by decide +kernel
theorem k21_48 : decode (mB 21) 48 = .ok (.getfield 88, 3) ∧ tF (mO 21) 88 = some (8, 7, 0, 0) := by decide +kernel
theorem k21_51 : decode (mB 21) 51 = .ok (.if_icmp .lt 6, 3) := by decide +kernel
theorem k21_54 : decode (mB 21) 54 = .ok (.ldc 106, 2) ∧ tK (mO 21) 106 = some (-1000000) := by decide +kernel
theorem k21_56 : decode (mB 21) 56 = .ok (.ireturn, 1) ∧ mR 21 = (some .int) := by decide +kernel
theorem k21_57 : decode (mB 21) 57 = .ok (.aload_n 0, 1) := by decide +kernel
theorem k21_58 : decode (mB 21) 58 = .ok (.invokevirtual 107, 3) ∧ tVn (mO 21) 107 = some 0 ∧ tV (mO 21) 107 3 = some 18 := by decide +kernel
theorem k21_61 : decode (mB 21) 61 = .ok (.aload_n 0, 1) := by decide +kernel
theorem k21_62 : decode (mB 21) 62 = .ok (.ldc 106, 2) ∧ tK (mO 21) 106 = some (-1000000) := by decide +kernel
theorem k21_64 : decode (mB 21) 64 = .ok (.putfield 110, 3) ∧ tF (mO 21) 110 = some (3, 7, 0, 0) := by decide +kernel
theorem k21_67 : decode (mB 21) 67 = .ok (.aload_n 0, 1) := by decide +kernel
theorem k21_68 : decode (mB 21) 68 = .ok (.iconst 0, 1) := by decide +kernel
theorem k21_69 : decode (mB 21) 69 = .ok (.invokevirtual 113, 3) ∧ tVn (mO 21) 113 = some 1 ∧ tV (mO 21) 113 3 = some 22 := by decide +kernel
theorem k21_72 : decode (mB 21) 72 = .ok (.iload_n 1, 1) := by decide +kernel
theorem k21_73 : decode (mB 21) 73 = .ok (.ifCond .ge 10, 3) := by decide +kernel
theorem k21_76 : decode (mB 21) 76 = .ok (.aload_n 0, 1) := by decide +kernel
theorem k21_77 : decode (mB 21) 77 = .ok (.getfield 110, 3) ∧ tF (mO 21) 110 = some (3, 7, 0, 0) := by decide +kernel
theorem k21_80 : decode (mB 21) 80 = .ok (.goto 9, 3) := by decide +kernel
theorem k21_83 : decode (mB 21) 83 = .ok (.aload_n 0, 1) := by decide +kernel
theorem k21_84 : decode (mB 21) 84 = .ok (.getfield 24, 3) ∧ tF (mO 21) 24 = some (3, 6, 1, 1) := by decide +kernel
theorem k21_87 : decode (mB 21) 87 = .ok (.iload_n 1, 1) := by decide +kernel
theorem k21_88 : decode (mB 21) 88 = .ok (.iaload, 1) := by decide +kernel
theorem k21_89 : decode (mB 21) 89 = .ok (.ireturn, 1) ∧ mR 21 = (some .int) := by decide +kernel
-- 22: ChairPast$Foresight.seatFrom:(I)V, locals 3
theorem l22 : mL 22 = 3 := by decide +kernel
theorem k22_0 : decode (mB 22) 0 = .ok (.iload_n 1, 1) := by decide +kernel
theorem k22_1 : decode (mB 22) 1 = .ok (.aload_n 0, 1) := by decide +kernel
theorem k22_2 : decode (mB 22) 2 = .ok (.getfield 27, 3) ∧ tF (mO 22) 27 = some (3, 0, 1, 1) := by decide +kernel
theorem k22_5 : decode (mB 22) 5 = .ok (.getfield 88, 3) ∧ tF (mO 22) 88 = some (8, 7, 0, 0) := by decide +kernel
theorem k22_8 : decode (mB 22) 8 = .ok (.if_icmp .ge 8, 3) := by decide +kernel
theorem k22_11 : decode (mB 22) 11 = .ok (.iload_n 1, 1) := by decide +kernel
theorem k22_12 : decode (mB 22) 12 = .ok (.iconst 5, 1) := by decide +kernel
theorem k22_13 : decode (mB 22) 13 = .ok (.if_icmp .lt 8, 3) := by decide +kernel
theorem k22_16 : decode (mB 22) 16 = .ok (.aload_n 0, 1) := by decide +kernel
theorem k22_17 : decode (mB 22) 17 = .ok (.invokevirtual 116, 3) ∧ tVn (mO 22) 116 = some 0 ∧ tV (mO 22) 116 3 = some 23 := by decide +kernel
theorem k22_20 : decode (mB 22) 20 = .ok (.return_, 1) ∧ mR 22 = none := by decide +kernel
theorem k22_21 : decode (mB 22) 21 = .ok (.aload_n 0, 1) := by decide +kernel
theorem k22_22 : decode (mB 22) 22 = .ok (.getfield 27, 3) ∧ tF (mO 22) 27 = some (3, 0, 1, 1) := by decide +kernel
theorem k22_25 : decode (mB 22) 25 = .ok (.iload_n 1, 1) := by decide +kernel
theorem k22_26 : decode (mB 22) 26 = .ok (.invokevirtual 119, 3) ∧ tVn (mO 22) 119 = some 1 ∧ tV (mO 22) 119 8 = some 86 := by decide +kernel
theorem k22_29 : decode (mB 22) 29 = .ok (.ifCond .eq 11, 3) := by decide +kernel
theorem k22_32 : decode (mB 22) 32 = .ok (.aload_n 0, 1) := by decide +kernel
theorem k22_33 : decode (mB 22) 33 = .ok (.iload_n 1, 1) := by decide +kernel
theorem k22_34 : decode (mB 22) 34 = .ok (.iconst 1, 1) := by decide +kernel
theorem k22_35 : decode (mB 22) 35 = .ok (.iadd, 1) := by decide +kernel
theorem k22_36 : decode (mB 22) 36 = .ok (.invokevirtual 113, 3) ∧ tVn (mO 22) 113 = some 1 ∧ tV (mO 22) 113 3 = some 22 := by decide +kernel
theorem k22_39 : decode (mB 22) 39 = .ok (.return_, 1) ∧ mR 22 = none := by decide +kernel
theorem k22_40 : decode (mB 22) 40 = .ok (.iconst 0, 1) := by decide +kernel
theorem k22_41 : decode (mB 22) 41 = .ok (.istore_n 2, 1) := by decide +kernel
theorem k22_42 : decode (mB 22) 42 = .ok (.iload_n 2, 1) := by decide +kernel
theorem k22_43 : decode (mB 22) 43 = .ok (.aload_n 0, 1) := by decide +kernel
theorem k22_44 : decode (mB 22) 44 = .ok (.getfield 27, 3) ∧ tF (mO 22) 27 = some (3, 0, 1, 1) := by decide +kernel
theorem k22_47 : decode (mB 22) 47 = .ok (.getfield 100, 3) ∧ tF (mO 22) 100 = some (8, 6, 0, 0) := by decide +kernel
theorem k22_50 : decode (mB 22) 50 = .ok (.if_icmp .ge 65, 3) := by decide +kernel
theorem k22_53 : decode (mB 22) 53 = .ok (.aload_n 0, 1) := by decide +kernel
theorem k22_54 : decode (mB 22) 54 = .ok (.getfield 40, 3) ∧ tF (mO 22) 40 = some (3, 1, 1, 1) := by decide +kernel
theorem k22_57 : decode (mB 22) 57 = .ok (.iload_n 2, 1) := by decide +kernel
theorem k22_58 : decode (mB 22) 58 = .ok (.invokevirtual 123, 3) ∧ tVn (mO 22) 123 = some 1 ∧ tV (mO 22) 123 8 = some 87 := by decide +kernel
theorem k22_61 : decode (mB 22) 61 = .ok (.ifCond .ne 48, 3) := by decide +kernel
theorem k22_64 : decode (mB 22) 64 = .ok (.aload_n 0, 1) := by decide +kernel
theorem k22_65 : decode (mB 22) 65 = .ok (.getfield 40, 3) ∧ tF (mO 22) 40 = some (3, 1, 1, 1) := by decide +kernel
theorem k22_68 : decode (mB 22) 68 = .ok (.iload_n 1, 1) := by decide +kernel
theorem k22_69 : decode (mB 22) 69 = .ok (.iload_n 2, 1) := by decide +kernel
theorem k22_70 : decode (mB 22) 70 = .ok (.aload_n 0, 1) := by decide +kernel
theorem k22_71 : decode (mB 22) 71 = .ok (.getfield 40, 3) ∧ tF (mO 22) 40 = some (3, 1, 1, 1) := by decide +kernel
theorem k22_74 : decode (mB 22) 74 = .ok (.getfield 69, 3) ∧ tF (mO 22) 69 = some (8, 1, 1, 1) := by decide +kernel
theorem k22_77 : decode (mB 22) 77 = .ok (.iload_n 2, 1) := by decide +kernel
theorem k22_78 : decode (mB 22) 78 = .ok (.aaload, 1) := by decide +kernel
theorem k22_79 : decode (mB 22) 79 = .ok (.aload_n 0, 1) := by decide +kernel
theorem k22_80 : decode (mB 22) 80 = .ok (.getfield 40, 3) ∧ tF (mO 22) 40 = some (3, 1, 1, 1) := by decide +kernel
theorem k22_83 : decode (mB 22) 83 = .ok (.getfield 59, 3) ∧ tF (mO 22) 59 = some (8, 2, 1, 1) := by decide +kernel
theorem k22_86 : decode (mB 22) 86 = .ok (.iload_n 1, 1) := by decide +kernel
theorem k22_87 : decode (mB 22) 87 = .ok (.iaload, 1) := by decide +kernel
theorem k22_88 : decode (mB 22) 88 = .ok (.invokevirtual 126, 3) ∧ tVn (mO 22) 126 = some 1 ∧ tV (mO 22) 126 1 = some 7 := by decide +kernel
theorem k22_91 : decode (mB 22) 91 = .ok (.invokevirtual 129, 3) ∧ tVn (mO 22) 129 = some 3 ∧ tV (mO 22) 129 8 = some 89 := by decide +kernel
theorem k22_94 : decode (mB 22) 94 = .ok (.aload_n 0, 1) := by decide +kernel
theorem k22_95 : decode (mB 22) 95 = .ok (.iload_n 1, 1) := by decide +kernel
theorem k22_96 : decode (mB 22) 96 = .ok (.iconst 1, 1) := by decide +kernel
theorem k22_97 : decode (mB 22) 97 = .ok (.iadd, 1) := by decide +kernel
theorem k22_98 : decode (mB 22) 98 = .ok (.invokevirtual 113, 3) ∧ tVn (mO 22) 113 = some 1 ∧ tV (mO 22) 113 3 = some 22 := by decide +kernel
theorem k22_101 : decode (mB 22) 101 = .ok (.aload_n 0, 1) := by decide +kernel
theorem k22_102 : decode (mB 22) 102 = .ok (.getfield 40, 3) ∧ tF (mO 22) 40 = some (3, 1, 1, 1) := by decide +kernel
theorem k22_105 : decode (mB 22) 105 = .ok (.iload_n 1, 1) := by decide +kernel
theorem k22_106 : decode (mB 22) 106 = .ok (.invokevirtual 133, 3) ∧ tVn (mO 22) 133 = some 1 ∧ tV (mO 22) 133 8 = some 90 := by decide +kernel
theorem k22_109 : decode (mB 22) 109 = .ok (.iinc 2 1, 3) := by decide +kernel
theorem k22_112 : decode (mB 22) 112 = .ok (.goto (-70), 3) := by decide +kernel
theorem k22_115 : decode (mB 22) 115 = .ok (.return_, 1) ∧ mR 22 = none := by decide +kernel
-- 23: ChairPast$Foresight.weighTrial:()V, locals 3
theorem l23 : mL 23 = 3 := by decide +kernel
theorem k23_0 : decode (mB 23) 0 = .ok (.aload_n 0, 1) := by decide +kernel
theorem k23_1 : decode (mB 23) 1 = .ok (.getfield 40, 3) ∧ tF (mO 23) 40 = some (3, 1, 1, 1) := by decide +kernel
theorem k23_4 : decode (mB 23) 4 = .ok (.invokevirtual 136, 3) ∧ tVn (mO 23) 136 = some 0 ∧ tV (mO 23) 136 8 = some 92 := by decide +kernel
theorem k23_7 : decode (mB 23) 7 = .ok (.istore_n 1, 1) := by decide +kernel
theorem k23_8 : decode (mB 23) 8 = .ok (.iload_n 1, 1) := by decide +kernel
theorem k23_9 : decode (mB 23) 9 = .ok (.aload_n 0, 1) := by decide +kernel
theorem k23_10 : decode (mB 23) 10 = .ok (.getfield 110, 3) ∧ tF (mO 23) 110 = some (3, 7, 0, 0) := by decide +kernel
theorem k23_13 : decode (mB 23) 13 = .ok (.if_icmp .gt 4, 3) := by decide +kernel
theorem k23_16 : decode (mB 23) 16 = .ok (.return_, 1) ∧ mR 23 = none := by decide +kernel
theorem k23_17 : decode (mB 23) 17 = .ok (.aload_n 0, 1) := by decide +kernel
theorem k23_18 : decode (mB 23) 18 = .ok (.iload_n 1, 1) := by decide +kernel
theorem k23_19 : decode (mB 23) 19 = .ok (.putfield 110, 3) ∧ tF (mO 23) 110 = some (3, 7, 0, 0) := by decide +kernel
theorem k23_22 : decode (mB 23) 22 = .ok (.iconst 0, 1) := by decide +kernel
theorem k23_23 : decode (mB 23) 23 = .ok (.istore_n 2, 1) := by decide +kernel
theorem k23_24 : decode (mB 23) 24 = .ok (.iload_n 2, 1) := by decide +kernel
theorem k23_25 : decode (mB 23) 25 = .ok (.iconst 5, 1) := by decide +kernel
theorem k23_26 : decode (mB 23) 26 = .ok (.if_icmp .ge 24, 3) := by decide +kernel
theorem k23_29 : decode (mB 23) 29 = .ok (.aload_n 0, 1) := by decide +kernel
theorem k23_30 : decode (mB 23) 30 = .ok (.getfield 24, 3) ∧ tF (mO 23) 24 = some (3, 6, 1, 1) := by decide +kernel
theorem k23_33 : decode (mB 23) 33 = .ok (.iload_n 2, 1) := by decide +kernel
theorem k23_34 : decode (mB 23) 34 = .ok (.aload_n 0, 1) := by decide +kernel
theorem k23_35 : decode (mB 23) 35 = .ok (.getfield 40, 3) ∧ tF (mO 23) 40 = some (3, 1, 1, 1) := by decide +kernel
theorem k23_38 : decode (mB 23) 38 = .ok (.getfield 139, 3) ∧ tF (mO 23) 139 = some (8, 4, 1, 1) := by decide +kernel
theorem k23_41 : decode (mB 23) 41 = .ok (.iload_n 2, 1) := by decide +kernel
theorem k23_42 : decode (mB 23) 42 = .ok (.iaload, 1) := by decide +kernel
theorem k23_43 : decode (mB 23) 43 = .ok (.iastore, 1) := by decide +kernel
theorem k23_44 : decode (mB 23) 44 = .ok (.iinc 2 1, 3) := by decide +kernel
theorem k23_47 : decode (mB 23) 47 = .ok (.goto (-23), 3) := by decide +kernel
theorem k23_50 : decode (mB 23) 50 = .ok (.return_, 1) ∧ mR 23 = none := by decide +kernel
-- 24: ChairPast$Foresight.fewestSittings:(III)I, locals 7
theorem l24 : mL 24 = 7 := by decide +kernel
theorem k24_0 : decode (mB 24) 0 = .ok (.iconst 1, 1) := by decide +kernel
theorem k24_1 : decode (mB 24) 1 = .ok (.istore 4, 2) := by decide +kernel
theorem k24_3 : decode (mB 24) 3 = .ok (.iconst 0, 1) := by decide +kernel
theorem k24_4 : decode (mB 24) 4 = .ok (.istore 5, 2) := by decide +kernel
theorem k24_6 : decode (mB 24) 6 = .ok (.iload 5, 2) := by decide +kernel
theorem k24_8 : decode (mB 24) 8 = .ok (.iconst 3, 1) := by decide +kernel
theorem k24_9 : decode (mB 24) 9 = .ok (.if_icmp .gt 60, 3) := by decide +kernel
theorem k24_12 : decode (mB 24) 12 = .ok (.iconst 0, 1) := by decide +kernel
theorem k24_13 : decode (mB 24) 13 = .ok (.istore 6, 2) := by decide +kernel
theorem k24_15 : decode (mB 24) 15 = .ok (.iload 6, 2) := by decide +kernel
theorem k24_17 : decode (mB 24) 17 = .ok (.iload 4, 2) := by decide +kernel
theorem k24_19 : decode (mB 24) 19 = .ok (.if_icmp .ge 32, 3) := by decide +kernel
theorem k24_22 : decode (mB 24) 22 = .ok (.aload_n 0, 1) := by decide +kernel
theorem k24_23 : decode (mB 24) 23 = .ok (.iload 6, 2) := by decide +kernel
theorem k24_25 : decode (mB 24) 25 = .ok (.iload 5, 2) := by decide +kernel
theorem k24_27 : decode (mB 24) 27 = .ok (.invokevirtual 142, 3) ∧ tVn (mO 24) 142 = some 2 ∧ tV (mO 24) 142 3 = some 26 := by decide +kernel
theorem k24_30 : decode (mB 24) 30 = .ok (.aload_n 0, 1) := by decide +kernel
theorem k24_31 : decode (mB 24) 31 = .ok (.iload 5, 2) := by decide +kernel
theorem k24_33 : decode (mB 24) 33 = .ok (.iload_n 1, 1) := by decide +kernel
theorem k24_34 : decode (mB 24) 34 = .ok (.iload_n 2, 1) := by decide +kernel
theorem k24_35 : decode (mB 24) 35 = .ok (.invokevirtual 146, 3) ∧ tVn (mO 24) 146 = some 3 ∧ tV (mO 24) 146 3 = some 27 := by decide +kernel
theorem k24_38 : decode (mB 24) 38 = .ok (.iload_n 3, 1) := by decide +kernel
theorem k24_39 : decode (mB 24) 39 = .ok (.if_icmp .ne 6, 3) := by decide +kernel
theorem k24_42 : decode (mB 24) 42 = .ok (.iload 5, 2) := by decide +kernel
theorem k24_44 : decode (mB 24) 44 = .ok (.ireturn, 1) ∧ mR 24 = (some .int) := by decide +kernel
theorem k24_45 : decode (mB 24) 45 = .ok (.iinc 6 1, 3) := by decide +kernel
theorem k24_48 : decode (mB 24) 48 = .ok (.goto (-33), 3) := by decide +kernel
theorem k24_51 : decode (mB 24) 51 = .ok (.iload 4, 2) := by decide +kernel
theorem k24_53 : decode (mB 24) 53 = .ok (.aload_n 0, 1) := by decide +kernel
theorem k24_54 : decode (mB 24) 54 = .ok (.getfield 27, 3) ∧ tF (mO 24) 27 = some (3, 0, 1, 1) := by decide +kernel
theorem k24_57 : decode (mB 24) 57 = .ok (.getfield 88, 3) ∧ tF (mO 24) 88 = some (8, 7, 0, 0) := by decide +kernel
theorem k24_60 : decode (mB 24) 60 = .ok (.imul, 1) := by decide +kernel
theorem k24_61 : decode (mB 24) 61 = .ok (.istore 4, 2) := by decide +kernel
theorem k24_63 : decode (mB 24) 63 = .ok (.iinc 5 1, 3) := by decide +kernel
theorem k24_66 : decode (mB 24) 66 = .ok (.goto (-60), 3) := by decide +kernel
theorem k24_69 : decode (mB 24) 69 = .ok (.ldc 106, 2) ∧ tK (mO 24) 106 = some (-1000000) := by decide +kernel
theorem k24_71 : decode (mB 24) 71 = .ok (.ireturn, 1) ∧ mR 24 = (some .int) := by decide +kernel
-- 25: ChairPast$Foresight.sitterOf:(I)I, locals 2
theorem l25 : mL 25 = 2 := by decide +kernel
theorem k25_0 : decode (mB 25) 0 = .ok (.iload_n 1, 1) := by decide +kernel
theorem k25_1 : decode (mB 25) 1 = .ok (.ifCond .lt 17, 3) := by decide +kernel
theorem k25_4 : decode (mB 25) 4 = .ok (.iload_n 1, 1) := by decide +kernel
theorem k25_5 : decode (mB 25) 5 = .ok (.iconst 3, 1) := by decide +kernel
theorem k25_6 : decode (mB 25) 6 = .ok (.if_icmp .ge 12, 3) := by decide +kernel
theorem k25_9 : decode (mB 25) 9 = .ok (.aload_n 0, 1) := by decide +kernel
theorem k25_10 : decode (mB 25) 10 = .ok (.getfield 20, 3) ∧ tF (mO 25) 20 = some (3, 5, 1, 1) := by decide +kernel
theorem k25_13 : decode (mB 25) 13 = .ok (.iload_n 1, 1) := by decide +kernel
theorem k25_14 : decode (mB 25) 14 = .ok (.iaload, 1) := by decide +kernel
theorem k25_15 : decode (mB 25) 15 = .ok (.goto 5, 3) := by decide +kernel
theorem k25_18 : decode (mB 25) 18 = .ok (.ldc 106, 2) ∧ tK (mO 25) 106 = some (-1000000) := by decide +kernel
theorem k25_20 : decode (mB 25) 20 = .ok (.ireturn, 1) ∧ mR 25 = (some .int) := by decide +kernel
-- 26: ChairPast$Foresight.spellSitters:(II)V, locals 6
theorem l26 : mL 26 = 6 := by decide +kernel
theorem k26_0 : decode (mB 26) 0 = .ok (.aload_n 0, 1) := by decide +kernel
theorem k26_1 : decode (mB 26) 1 = .ok (.getfield 27, 3) ∧ tF (mO 26) 27 = some (3, 0, 1, 1) := by decide +kernel
theorem k26_4 : decode (mB 26) 4 = .ok (.getfield 88, 3) ∧ tF (mO 26) 88 = some (8, 7, 0, 0) := by decide +kernel
theorem k26_7 : decode (mB 26) 7 = .ok (.iconst 1, 1) := by decide +kernel
theorem k26_8 : decode (mB 26) 8 = .ok (.invokestatic 150, 3) ∧ tM (mO 26) 150 = some 3 := by decide +kernel
theorem k26_11 : decode (mB 26) 11 = .ok (.istore_n 3, 1) := by decide +kernel
theorem k26_12 : decode (mB 26) 12 = .ok (.iload_n 1, 1) := by decide +kernel
theorem k26_13 : decode (mB 26) 13 = .ok (.istore 4, 2) := by decide +kernel
theorem k26_15 : decode (mB 26) 15 = .ok (.iload_n 2, 1) := by decide +kernel
theorem k26_16 : decode (mB 26) 16 = .ok (.iconst 1, 1) := by decide +kernel
theorem k26_17 : decode (mB 26) 17 = .ok (.isub, 1) := by decide +kernel
theorem k26_18 : decode (mB 26) 18 = .ok (.istore 5, 2) := by decide +kernel
theorem k26_20 : decode (mB 26) 20 = .ok (.iload 5, 2) := by decide +kernel
theorem k26_22 : decode (mB 26) 22 = .ok (.ifCond .lt 26, 3) := by decide +kernel
theorem k26_25 : decode (mB 26) 25 = .ok (.aload_n 0, 1) := by decide +kernel
theorem k26_26 : decode (mB 26) 26 = .ok (.getfield 20, 3) ∧ tF (mO 26) 20 = some (3, 5, 1, 1) := by decide +kernel
theorem k26_29 : decode (mB 26) 29 = .ok (.iload 5, 2) := by decide +kernel
theorem k26_31 : decode (mB 26) 31 = .ok (.iload 4, 2) := by decide +kernel
theorem k26_33 : decode (mB 26) 33 = .ok (.iload_n 3, 1) := by decide +kernel
theorem k26_34 : decode (mB 26) 34 = .ok (.irem, 1) := by decide +kernel
theorem k26_35 : decode (mB 26) 35 = .ok (.iastore, 1) := by decide +kernel
theorem k26_36 : decode (mB 26) 36 = .ok (.iload 4, 2) := by decide +kernel
theorem k26_38 : decode (mB 26) 38 = .ok (.iload_n 3, 1) := by decide +kernel
theorem k26_39 : decode (mB 26) 39 = .ok (.idiv, 1) := by decide +kernel
theorem k26_40 : decode (mB 26) 40 = .ok (.istore 4, 2) := by decide +kernel
theorem k26_42 : decode (mB 26) 42 = .ok (.iinc 5 (-1), 3) := by decide +kernel
theorem k26_45 : decode (mB 26) 45 = .ok (.goto (-25), 3) := by decide +kernel
theorem k26_48 : decode (mB 26) 48 = .ok (.return_, 1) ∧ mR 26 = none := by decide +kernel
-- 27: ChairPast$Foresight.bearingBehind:(III)I, locals 5
theorem l27 : mL 27 = 5 := by decide +kernel
theorem k27_0 : decode (mB 27) 0 = .ok (.aload_n 0, 1) := by decide +kernel
theorem k27_1 : decode (mB 27) 1 = .ok (.getfield 48, 3) ∧ tF (mO 27) 48 = some (3, 3, 1, 1) := by decide +kernel
theorem k27_4 : decode (mB 27) 4 = .ok (.aload_n 0, 1) := by decide +kernel
theorem k27_5 : decode (mB 27) 5 = .ok (.getfield 27, 3) ∧ tF (mO 27) 27 = some (3, 0, 1, 1) := by decide +kernel
theorem k27_8 : decode (mB 27) 8 = .ok (.getfield 69, 3) ∧ tF (mO 27) 69 = some (8, 1, 1, 1) := by decide +kernel
theorem k27_11 : decode (mB 27) 11 = .ok (.iload_n 3, 1) := by decide +kernel
theorem k27_12 : decode (mB 27) 12 = .ok (.aaload, 1) := by decide +kernel
theorem k27_13 : decode (mB 27) 13 = .ok (.invokevirtual 73, 3) ∧ tVn (mO 27) 73 = some 1 ∧ tV (mO 27) 73 1 = some 10 := by decide +kernel
theorem k27_16 : decode (mB 27) 16 = .ok (.iconst 0, 1) := by decide +kernel
theorem k27_17 : decode (mB 27) 17 = .ok (.istore 4, 2) := by decide +kernel
theorem k27_19 : decode (mB 27) 19 = .ok (.iload 4, 2) := by decide +kernel
theorem k27_21 : decode (mB 27) 21 = .ok (.iload_n 1, 1) := by decide +kernel
theorem k27_22 : decode (mB 27) 22 = .ok (.if_icmp .ge 21, 3) := by decide +kernel
theorem k27_25 : decode (mB 27) 25 = .ok (.aload_n 0, 1) := by decide +kernel
theorem k27_26 : decode (mB 27) 26 = .ok (.aload_n 0, 1) := by decide +kernel
theorem k27_27 : decode (mB 27) 27 = .ok (.getfield 20, 3) ∧ tF (mO 27) 20 = some (3, 5, 1, 1) := by decide +kernel
theorem k27_30 : decode (mB 27) 30 = .ok (.iload 4, 2) := by decide +kernel
theorem k27_32 : decode (mB 27) 32 = .ok (.iaload, 1) := by decide +kernel
theorem k27_33 : decode (mB 27) 33 = .ok (.invokevirtual 77, 3) ∧ tVn (mO 27) 77 = some 1 ∧ tV (mO 27) 77 3 = some 19 := by decide +kernel
theorem k27_36 : decode (mB 27) 36 = .ok (.pop, 1) := by decide +kernel
theorem k27_37 : decode (mB 27) 37 = .ok (.iinc 4 1, 3) := by decide +kernel
theorem k27_40 : decode (mB 27) 40 = .ok (.goto (-21), 3) := by decide +kernel
theorem k27_43 : decode (mB 27) 43 = .ok (.aload_n 0, 1) := by decide +kernel
theorem k27_44 : decode (mB 27) 44 = .ok (.getfield 48, 3) ∧ tF (mO 27) 48 = some (3, 3, 1, 1) := by decide +kernel
theorem k27_47 : decode (mB 27) 47 = .ok (.aload_n 0, 1) := by decide +kernel
theorem k27_48 : decode (mB 27) 48 = .ok (.getfield 27, 3) ∧ tF (mO 27) 27 = some (3, 0, 1, 1) := by decide +kernel
theorem k27_51 : decode (mB 27) 51 = .ok (.getfield 59, 3) ∧ tF (mO 27) 59 = some (8, 2, 1, 1) := by decide +kernel
theorem k27_54 : decode (mB 27) 54 = .ok (.iload_n 2, 1) := by decide +kernel
theorem k27_55 : decode (mB 27) 55 = .ok (.iaload, 1) := by decide +kernel
theorem k27_56 : decode (mB 27) 56 = .ok (.invokevirtual 126, 3) ∧ tVn (mO 27) 126 = some 1 ∧ tV (mO 27) 126 1 = some 7 := by decide +kernel
theorem k27_59 : decode (mB 27) 59 = .ok (.ireturn, 1) ∧ mR 27 = (some .int) := by decide +kernel
-- 28: ChairPast$Foresight.sittingsToOwn:(II)I, locals 4
theorem l28 : mL 28 = 4 := by decide +kernel
theorem k28_0 : decode (mB 28) 0 = .ok (.aload_n 0, 1) := by decide +kernel
theorem k28_1 : decode (mB 28) 1 = .ok (.getfield 48, 3) ∧ tF (mO 28) 48 = some (3, 3, 1, 1) := by decide +kernel
theorem k28_4 : decode (mB 28) 4 = .ok (.aload_n 0, 1) := by decide +kernel
theorem k28_5 : decode (mB 28) 5 = .ok (.getfield 27, 3) ∧ tF (mO 28) 27 = some (3, 0, 1, 1) := by decide +kernel
theorem k28_8 : decode (mB 28) 8 = .ok (.getfield 69, 3) ∧ tF (mO 28) 69 = some (8, 1, 1, 1) := by decide +kernel
theorem k28_11 : decode (mB 28) 11 = .ok (.iload_n 2, 1) := by decide +kernel
theorem k28_12 : decode (mB 28) 12 = .ok (.aaload, 1) := by decide +kernel
theorem k28_13 : decode (mB 28) 13 = .ok (.invokevirtual 73, 3) ∧ tVn (mO 28) 73 = some 1 ∧ tV (mO 28) 73 1 = some 10 := by decide +kernel
theorem k28_16 : decode (mB 28) 16 = .ok (.iconst 0, 1) := by decide +kernel
theorem k28_17 : decode (mB 28) 17 = .ok (.istore_n 3, 1) := by decide +kernel
theorem k28_18 : decode (mB 28) 18 = .ok (.iload_n 3, 1) := by decide +kernel
theorem k28_19 : decode (mB 28) 19 = .ok (.bipush 20, 2) := by decide +kernel
theorem k28_21 : decode (mB 28) 21 = .ok (.if_icmp .gt 28, 3) := by decide +kernel
theorem k28_24 : decode (mB 28) 24 = .ok (.aload_n 0, 1) := by decide +kernel
theorem k28_25 : decode (mB 28) 25 = .ok (.iload_n 1, 1) := by decide +kernel
theorem k28_26 : decode (mB 28) 26 = .ok (.invokevirtual 77, 3) ∧ tVn (mO 28) 77 = some 1 ∧ tV (mO 28) 77 3 = some 19 := by decide +kernel
theorem k28_29 : decode (mB 28) 29 = .ok (.aload_n 0, 1) := by decide +kernel
theorem k28_30 : decode (mB 28) 30 = .ok (.getfield 27, 3) ∧ tF (mO 28) 27 = some (3, 0, 1, 1) := by decide +kernel
theorem k28_33 : decode (mB 28) 33 = .ok (.getfield 59, 3) ∧ tF (mO 28) 59 = some (8, 2, 1, 1) := by decide +kernel
theorem k28_36 : decode (mB 28) 36 = .ok (.iload_n 1, 1) := by decide +kernel
theorem k28_37 : decode (mB 28) 37 = .ok (.iaload, 1) := by decide +kernel
theorem k28_38 : decode (mB 28) 38 = .ok (.if_icmp .ne 5, 3) := by decide +kernel
theorem k28_41 : decode (mB 28) 41 = .ok (.iload_n 3, 1) := by decide +kernel
theorem k28_42 : decode (mB 28) 42 = .ok (.ireturn, 1) ∧ mR 28 = (some .int) := by decide +kernel
theorem k28_43 : decode (mB 28) 43 = .ok (.iinc 3 1, 3) := by decide +kernel
theorem k28_46 : decode (mB 28) 46 = .ok (.goto (-28), 3) := by decide +kernel
theorem k28_49 : decode (mB 28) 49 = .ok (.ldc 106, 2) ∧ tK (mO 28) 106 = some (-1000000) := by decide +kernel
theorem k28_51 : decode (mB 28) 51 = .ok (.ireturn, 1) ∧ mR 28 = (some .int) := by decide +kernel
-- 29: ChairPast$Foresight.sittersLeaving:(III)I, locals 6
theorem l29 : mL 29 = 6 := by decide +kernel
theorem k29_0 : decode (mB 29) 0 = .ok (.iconst 0, 1) := by decide +kernel
theorem k29_1 : decode (mB 29) 1 = .ok (.istore 4, 2) := by decide +kernel
theorem k29_3 : decode (mB 29) 3 = .ok (.iconst 0, 1) := by decide +kernel
theorem k29_4 : decode (mB 29) 4 = .ok (.istore 5, 2) := by decide +kernel
theorem k29_6 : decode (mB 29) 6 = .ok (.iload 5, 2) := by decide +kernel
theorem k29_8 : decode (mB 29) 8 = .ok (.aload_n 0, 1) := by decide +kernel
theorem k29_9 : decode (mB 29) 9 = .ok (.getfield 27, 3) ∧ tF (mO 29) 27 = some (3, 0, 1, 1) := by decide +kernel
theorem k29_12 : decode (mB 29) 12 = .ok (.getfield 88, 3) ∧ tF (mO 29) 88 = some (8, 7, 0, 0) := by decide +kernel
theorem k29_15 : decode (mB 29) 15 = .ok (.if_icmp .ge 53, 3) := by decide +kernel
theorem k29_18 : decode (mB 29) 18 = .ok (.aload_n 0, 1) := by decide +kernel
theorem k29_19 : decode (mB 29) 19 = .ok (.getfield 48, 3) ∧ tF (mO 29) 48 = some (3, 3, 1, 1) := by decide +kernel
theorem k29_22 : decode (mB 29) 22 = .ok (.aload_n 0, 1) := by decide +kernel
theorem k29_23 : decode (mB 29) 23 = .ok (.getfield 27, 3) ∧ tF (mO 29) 27 = some (3, 0, 1, 1) := by decide +kernel
theorem k29_26 : decode (mB 29) 26 = .ok (.getfield 69, 3) ∧ tF (mO 29) 69 = some (8, 1, 1, 1) := by decide +kernel
theorem k29_29 : decode (mB 29) 29 = .ok (.iload_n 1, 1) := by decide +kernel
theorem k29_30 : decode (mB 29) 30 = .ok (.aaload, 1) := by decide +kernel
theorem k29_31 : decode (mB 29) 31 = .ok (.invokevirtual 73, 3) ∧ tVn (mO 29) 73 = some 1 ∧ tV (mO 29) 73 1 = some 10 := by decide +kernel
theorem k29_34 : decode (mB 29) 34 = .ok (.aload_n 0, 1) := by decide +kernel
theorem k29_35 : decode (mB 29) 35 = .ok (.iload 5, 2) := by decide +kernel
theorem k29_37 : decode (mB 29) 37 = .ok (.invokevirtual 77, 3) ∧ tVn (mO 29) 77 = some 1 ∧ tV (mO 29) 77 3 = some 19 := by decide +kernel
theorem k29_40 : decode (mB 29) 40 = .ok (.pop, 1) := by decide +kernel
theorem k29_41 : decode (mB 29) 41 = .ok (.aload_n 0, 1) := by decide +kernel
theorem k29_42 : decode (mB 29) 42 = .ok (.getfield 48, 3) ∧ tF (mO 29) 48 = some (3, 3, 1, 1) := by decide +kernel
theorem k29_45 : decode (mB 29) 45 = .ok (.iload_n 2, 1) := by decide +kernel
theorem k29_46 : decode (mB 29) 46 = .ok (.iload_n 3, 1) := by decide +kernel
theorem k29_47 : decode (mB 29) 47 = .ok (.invokevirtual 155, 3) ∧ tVn (mO 29) 155 = some 2 ∧ tV (mO 29) 155 1 = some 9 := by decide +kernel
theorem k29_50 : decode (mB 29) 50 = .ok (.ifCond .eq 12, 3) := by decide +kernel
theorem k29_53 : decode (mB 29) 53 = .ok (.iload 4, 2) := by decide +kernel
theorem k29_55 : decode (mB 29) 55 = .ok (.iconst 1, 1) := by decide +kernel
theorem k29_56 : decode (mB 29) 56 = .ok (.iload 5, 2) := by decide +kernel
theorem k29_58 : decode (mB 29) 58 = .ok (.ishl, 1) := by decide +kernel
theorem k29_59 : decode (mB 29) 59 = .ok (.ior, 1) := by decide +kernel
theorem k29_60 : decode (mB 29) 60 = .ok (.istore 4, 2) := by decide +kernel
theorem k29_62 : decode (mB 29) 62 = .ok (.iinc 5 1, 3) := by decide +kernel
theorem k29_65 : decode (mB 29) 65 = .ok (.goto (-59), 3) := by decide +kernel
theorem k29_68 : decode (mB 29) 68 = .ok (.iload 4, 2) := by decide +kernel
theorem k29_70 : decode (mB 29) 70 = .ok (.ireturn, 1) ∧ mR 29 = (some .int) := by decide +kernel
-- 30: ChairPast$Foresight.pairsLeaving:(III)I, locals 7
theorem l30 : mL 30 = 7 := by decide +kernel
theorem k30_0 : decode (mB 30) 0 = .ok (.iconst 0, 1) := by decide +kernel
theorem k30_1 : decode (mB 30) 1 = .ok (.istore 4, 2) := by decide +kernel
theorem k30_3 : decode (mB 30) 3 = .ok (.iconst 0, 1) := by decide +kernel
theorem k30_4 : decode (mB 30) 4 = .ok (.istore 5, 2) := by decide +kernel
theorem k30_6 : decode (mB 30) 6 = .ok (.iload 5, 2) := by decide +kernel
theorem k30_8 : decode (mB 30) 8 = .ok (.aload_n 0, 1) := by decide +kernel
theorem k30_9 : decode (mB 30) 9 = .ok (.getfield 27, 3) ∧ tF (mO 30) 27 = some (3, 0, 1, 1) := by decide +kernel
theorem k30_12 : decode (mB 30) 12 = .ok (.getfield 88, 3) ∧ tF (mO 30) 88 = some (8, 7, 0, 0) := by decide +kernel
theorem k30_15 : decode (mB 30) 15 = .ok (.if_icmp .ge 75, 3) := by decide +kernel
theorem k30_18 : decode (mB 30) 18 = .ok (.iconst 0, 1) := by decide +kernel
theorem k30_19 : decode (mB 30) 19 = .ok (.istore 6, 2) := by decide +kernel
theorem k30_21 : decode (mB 30) 21 = .ok (.iload 6, 2) := by decide +kernel
theorem k30_23 : decode (mB 30) 23 = .ok (.aload_n 0, 1) := by decide +kernel
theorem k30_24 : decode (mB 30) 24 = .ok (.getfield 27, 3) ∧ tF (mO 30) 27 = some (3, 0, 1, 1) := by decide +kernel
theorem k30_27 : decode (mB 30) 27 = .ok (.getfield 88, 3) ∧ tF (mO 30) 88 = some (8, 7, 0, 0) := by decide +kernel
theorem k30_30 : decode (mB 30) 30 = .ok (.if_icmp .ge 54, 3) := by decide +kernel
theorem k30_33 : decode (mB 30) 33 = .ok (.aload_n 0, 1) := by decide +kernel
theorem k30_34 : decode (mB 30) 34 = .ok (.getfield 48, 3) ∧ tF (mO 30) 48 = some (3, 3, 1, 1) := by decide +kernel
theorem k30_37 : decode (mB 30) 37 = .ok (.aload_n 0, 1) := by decide +kernel
theorem k30_38 : decode (mB 30) 38 = .ok (.getfield 27, 3) ∧ tF (mO 30) 27 = some (3, 0, 1, 1) := by decide +kernel
theorem k30_41 : decode (mB 30) 41 = .ok (.getfield 69, 3) ∧ tF (mO 30) 69 = some (8, 1, 1, 1) := by decide +kernel
theorem k30_44 : decode (mB 30) 44 = .ok (.iload_n 1, 1) := by decide +kernel
theorem k30_45 : decode (mB 30) 45 = .ok (.aaload, 1) := by decide +kernel
theorem k30_46 : decode (mB 30) 46 = .ok (.invokevirtual 73, 3) ∧ tVn (mO 30) 73 = some 1 ∧ tV (mO 30) 73 1 = some 10 := by decide +kernel
theorem k30_49 : decode (mB 30) 49 = .ok (.aload_n 0, 1) := by decide +kernel
theorem k30_50 : decode (mB 30) 50 = .ok (.iload 5, 2) := by decide +kernel
theorem k30_52 : decode (mB 30) 52 = .ok (.invokevirtual 77, 3) ∧ tVn (mO 30) 77 = some 1 ∧ tV (mO 30) 77 3 = some 19 := by decide +kernel
theorem k30_55 : decode (mB 30) 55 = .ok (.pop, 1) := by decide +kernel
theorem k30_56 : decode (mB 30) 56 = .ok (.aload_n 0, 1) := by decide +kernel
theorem k30_57 : decode (mB 30) 57 = .ok (.iload 6, 2) := by decide +kernel
theorem k30_59 : decode (mB 30) 59 = .ok (.invokevirtual 77, 3) ∧ tVn (mO 30) 77 = some 1 ∧ tV (mO 30) 77 3 = some 19 := by decide +kernel
theorem k30_62 : decode (mB 30) 62 = .ok (.pop, 1) := by decide +kernel
theorem k30_63 : decode (mB 30) 63 = .ok (.aload_n 0, 1) := by decide +kernel
theorem k30_64 : decode (mB 30) 64 = .ok (.getfield 48, 3) ∧ tF (mO 30) 48 = some (3, 3, 1, 1) := by decide +kernel
theorem k30_67 : decode (mB 30) 67 = .ok (.iload_n 2, 1) := by decide +kernel
theorem k30_68 : decode (mB 30) 68 = .ok (.iload_n 3, 1) := by decide +kernel
theorem k30_69 : decode (mB 30) 69 = .ok (.invokevirtual 155, 3) ∧ tVn (mO 30) 155 = some 2 ∧ tV (mO 30) 155 1 = some 9 := by decide +kernel
theorem k30_72 : decode (mB 30) 72 = .ok (.ifCond .eq 6, 3) := by decide +kernel
theorem k30_75 : decode (mB 30) 75 = .ok (.iinc 4 1, 3) := by decide +kernel
theorem k30_78 : decode (mB 30) 78 = .ok (.iinc 6 1, 3) := by decide +kernel
theorem k30_81 : decode (mB 30) 81 = .ok (.goto (-60), 3) := by decide +kernel
theorem k30_84 : decode (mB 30) 84 = .ok (.iinc 5 1, 3) := by decide +kernel
theorem k30_87 : decode (mB 30) 87 = .ok (.goto (-81), 3) := by decide +kernel
theorem k30_90 : decode (mB 30) 90 = .ok (.iload 4, 2) := by decide +kernel
theorem k30_92 : decode (mB 30) 92 = .ok (.ireturn, 1) ∧ mR 30 = (some .int) := by decide +kernel
-- 31: ChairPast$Foresight.ownsBy:([II)I, locals 5
theorem l31 : mL 31 = 5 := by decide +kernel
theorem k31_0 : decode (mB 31) 0 = .ok (.iconst 0, 1) := by decide +kernel
theorem k31_1 : decode (mB 31) 1 = .ok (.istore_n 3, 1) := by decide +kernel
theorem k31_2 : decode (mB 31) 2 = .ok (.iconst 0, 1) := by decide +kernel
theorem k31_3 : decode (mB 31) 3 = .ok (.istore 4, 2) := by decide +kernel
theorem k31_5 : decode (mB 31) 5 = .ok (.iload 4, 2) := by decide +kernel
theorem k31_7 : decode (mB 31) 7 = .ok (.bipush 10, 2) := by decide +kernel
theorem k31_9 : decode (mB 31) 9 = .ok (.if_icmp .ge 27, 3) := by decide +kernel
theorem k31_12 : decode (mB 31) 12 = .ok (.aload_n 0, 1) := by decide +kernel
theorem k31_13 : decode (mB 31) 13 = .ok (.iload 4, 2) := by decide +kernel
theorem k31_15 : decode (mB 31) 15 = .ok (.aload_n 1, 1) := by decide +kernel
theorem k31_16 : decode (mB 31) 16 = .ok (.iload_n 2, 1) := by decide +kernel
theorem k31_17 : decode (mB 31) 17 = .ok (.invokevirtual 159, 3) ∧ tVn (mO 31) 159 = some 3 ∧ tV (mO 31) 159 3 = some 32 := by decide +kernel
theorem k31_20 : decode (mB 31) 20 = .ok (.ifCond .eq 10, 3) := by decide +kernel
theorem k31_23 : decode (mB 31) 23 = .ok (.iload_n 3, 1) := by decide +kernel
theorem k31_24 : decode (mB 31) 24 = .ok (.iconst 1, 1) := by decide +kernel
theorem k31_25 : decode (mB 31) 25 = .ok (.iload 4, 2) := by decide +kernel
theorem k31_27 : decode (mB 31) 27 = .ok (.ishl, 1) := by decide +kernel
theorem k31_28 : decode (mB 31) 28 = .ok (.ior, 1) := by decide +kernel
theorem k31_29 : decode (mB 31) 29 = .ok (.istore_n 3, 1) := by decide +kernel
theorem k31_30 : decode (mB 31) 30 = .ok (.iinc 4 1, 3) := by decide +kernel
theorem k31_33 : decode (mB 31) 33 = .ok (.goto (-28), 3) := by decide +kernel
theorem k31_36 : decode (mB 31) 36 = .ok (.iload_n 3, 1) := by decide +kernel
theorem k31_37 : decode (mB 31) 37 = .ok (.ireturn, 1) ∧ mR 31 = (some .int) := by decide +kernel
-- 32: ChairPast$Foresight.ownGives:(I[II)Z, locals 5
theorem l32 : mL 32 = 5 := by decide +kernel
theorem k32_0 : decode (mB 32) 0 = .ok (.iconst 0, 1) := by decide +kernel
theorem k32_1 : decode (mB 32) 1 = .ok (.istore 4, 2) := by decide +kernel
theorem k32_3 : decode (mB 32) 3 = .ok (.iload 4, 2) := by decide +kernel
theorem k32_5 : decode (mB 32) 5 = .ok (.aload_n 0, 1) := by decide +kernel
theorem k32_6 : decode (mB 32) 6 = .ok (.getfield 27, 3) ∧ tF (mO 32) 27 = some (3, 0, 1, 1) := by decide +kernel
theorem k32_9 : decode (mB 32) 9 = .ok (.getfield 100, 3) ∧ tF (mO 32) 100 = some (8, 6, 0, 0) := by decide +kernel
theorem k32_12 : decode (mB 32) 12 = .ok (.if_icmp .ge 34, 3) := by decide +kernel
theorem k32_15 : decode (mB 32) 15 = .ok (.aload_n 0, 1) := by decide +kernel
theorem k32_16 : decode (mB 32) 16 = .ok (.getfield 27, 3) ∧ tF (mO 32) 27 = some (3, 0, 1, 1) := by decide +kernel
theorem k32_19 : decode (mB 32) 19 = .ok (.getfield 69, 3) ∧ tF (mO 32) 69 = some (8, 1, 1, 1) := by decide +kernel
theorem k32_22 : decode (mB 32) 22 = .ok (.iload 4, 2) := by decide +kernel
theorem k32_24 : decode (mB 32) 24 = .ok (.aaload, 1) := by decide +kernel
theorem k32_25 : decode (mB 32) 25 = .ok (.iload_n 1, 1) := by decide +kernel
theorem k32_26 : decode (mB 32) 26 = .ok (.invokevirtual 126, 3) ∧ tVn (mO 32) 126 = some 1 ∧ tV (mO 32) 126 1 = some 7 := by decide +kernel
theorem k32_29 : decode (mB 32) 29 = .ok (.aload_n 2, 1) := by decide +kernel
theorem k32_30 : decode (mB 32) 30 = .ok (.iload_n 3, 1) := by decide +kernel
theorem k32_31 : decode (mB 32) 31 = .ok (.iload 4, 2) := by decide +kernel
theorem k32_33 : decode (mB 32) 33 = .ok (.iadd, 1) := by decide +kernel
theorem k32_34 : decode (mB 32) 34 = .ok (.iaload, 1) := by decide +kernel
theorem k32_35 : decode (mB 32) 35 = .ok (.if_icmp .eq 5, 3) := by decide +kernel
theorem k32_38 : decode (mB 32) 38 = .ok (.iconst 0, 1) := by decide +kernel
theorem k32_39 : decode (mB 32) 39 = .ok (.ireturn, 1) ∧ mR 32 = (some .boolean) := by decide +kernel
theorem k32_40 : decode (mB 32) 40 = .ok (.iinc 4 1, 3) := by decide +kernel
theorem k32_43 : decode (mB 32) 43 = .ok (.goto (-40), 3) := by decide +kernel
theorem k32_46 : decode (mB 32) 46 = .ok (.iconst 1, 1) := by decide +kernel
theorem k32_47 : decode (mB 32) 47 = .ok (.ireturn, 1) ∧ mR 32 = (some .boolean) := by decide +kernel
-- 33: ChairPast$Foresight.fitsBy:(I[III)I, locals 9
theorem l33 : mL 33 = 9 := by decide +kernel
theorem k33_0 : decode (mB 33) 0 = .ok (.iload 4, 2) := by decide +kernel
theorem k33_2 : decode (mB 33) 2 = .ok (.iconst 2, 1) := by decide +kernel
theorem k33_3 : decode (mB 33) 3 = .ok (.if_icmp .ne 7, 3) := by decide +kernel
theorem k33_6 : decode (mB 33) 6 = .ok (.iconst 1, 1) := by decide +kernel
theorem k33_7 : decode (mB 33) 7 = .ok (.goto 4, 3) := by decide +kernel
theorem k33_10 : decode (mB 33) 10 = .ok (.iconst 0, 1) := by decide +kernel
theorem k33_11 : decode (mB 33) 11 = .ok (.istore 5, 2) := by decide +kernel
theorem k33_13 : decode (mB 33) 13 = .ok (.iload 4, 2) := by decide +kernel
theorem k33_15 : decode (mB 33) 15 = .ok (.ifCond .ne 8, 3) := by decide +kernel
theorem k33_18 : decode (mB 33) 18 = .ok (.bipush 9, 2) := by decide +kernel
theorem k33_20 : decode (mB 33) 20 = .ok (.goto 15, 3) := by decide +kernel
theorem k33_23 : decode (mB 33) 23 = .ok (.iload 4, 2) := by decide +kernel
theorem k33_25 : decode (mB 33) 25 = .ok (.iconst 1, 1) := by decide +kernel
theorem k33_26 : decode (mB 33) 26 = .ok (.if_icmp .ne 8, 3) := by decide +kernel
theorem k33_29 : decode (mB 33) 29 = .ok (.bipush 16, 2) := by decide +kernel
theorem k33_31 : decode (mB 33) 31 = .ok (.goto 4, 3) := by decide +kernel
theorem k33_34 : decode (mB 33) 34 = .ok (.iconst 5, 1) := by decide +kernel
theorem k33_35 : decode (mB 33) 35 = .ok (.istore 6, 2) := by decide +kernel
theorem k33_37 : decode (mB 33) 37 = .ok (.iconst 0, 1) := by decide +kernel
theorem k33_38 : decode (mB 33) 38 = .ok (.istore 7, 2) := by decide +kernel
theorem k33_40 : decode (mB 33) 40 = .ok (.iload 5, 2) := by decide +kernel
theorem k33_42 : decode (mB 33) 42 = .ok (.istore 8, 2) := by decide +kernel
theorem k33_44 : decode (mB 33) 44 = .ok (.iload 8, 2) := by decide +kernel
theorem k33_46 : decode (mB 33) 46 = .ok (.iload 6, 2) := by decide +kernel
theorem k33_48 : decode (mB 33) 48 = .ok (.if_icmp .gt 51, 3) := by decide +kernel
theorem k33_51 : decode (mB 33) 51 = .ok (.aload_n 0, 1) := by decide +kernel
theorem k33_52 : decode (mB 33) 52 = .ok (.getfield 48, 3) ∧ tF (mO 33) 48 = some (3, 3, 1, 1) := by decide +kernel
theorem k33_55 : decode (mB 33) 55 = .ok (.aload_n 0, 1) := by decide +kernel
theorem k33_56 : decode (mB 33) 56 = .ok (.getfield 27, 3) ∧ tF (mO 33) 27 = some (3, 0, 1, 1) := by decide +kernel
theorem k33_59 : decode (mB 33) 59 = .ok (.getfield 69, 3) ∧ tF (mO 33) 69 = some (8, 1, 1, 1) := by decide +kernel
theorem k33_62 : decode (mB 33) 62 = .ok (.iload_n 1, 1) := by decide +kernel
theorem k33_63 : decode (mB 33) 63 = .ok (.aaload, 1) := by decide +kernel
theorem k33_64 : decode (mB 33) 64 = .ok (.invokevirtual 73, 3) ∧ tVn (mO 33) 73 = some 1 ∧ tV (mO 33) 73 1 = some 10 := by decide +kernel
theorem k33_67 : decode (mB 33) 67 = .ok (.aload_n 0, 1) := by decide +kernel
theorem k33_68 : decode (mB 33) 68 = .ok (.iload 4, 2) := by decide +kernel
theorem k33_70 : decode (mB 33) 70 = .ok (.iload 8, 2) := by decide +kernel
theorem k33_72 : decode (mB 33) 72 = .ok (.invokevirtual 163, 3) ∧ tVn (mO 33) 163 = some 2 ∧ tV (mO 33) 163 3 = some 34 := by decide +kernel
theorem k33_75 : decode (mB 33) 75 = .ok (.aload_n 0, 1) := by decide +kernel
theorem k33_76 : decode (mB 33) 76 = .ok (.aload_n 2, 1) := by decide +kernel
theorem k33_77 : decode (mB 33) 77 = .ok (.iload_n 3, 1) := by decide +kernel
theorem k33_78 : decode (mB 33) 78 = .ok (.invokevirtual 166, 3) ∧ tVn (mO 33) 166 = some 2 ∧ tV (mO 33) 166 3 = some 35 := by decide +kernel
theorem k33_81 : decode (mB 33) 81 = .ok (.ifCond .eq 12, 3) := by decide +kernel
theorem k33_84 : decode (mB 33) 84 = .ok (.iload 7, 2) := by decide +kernel
theorem k33_86 : decode (mB 33) 86 = .ok (.iconst 1, 1) := by decide +kernel
theorem k33_87 : decode (mB 33) 87 = .ok (.iload 8, 2) := by decide +kernel
theorem k33_89 : decode (mB 33) 89 = .ok (.ishl, 1) := by decide +kernel
theorem k33_90 : decode (mB 33) 90 = .ok (.ior, 1) := by decide +kernel
theorem k33_91 : decode (mB 33) 91 = .ok (.istore 7, 2) := by decide +kernel
theorem k33_93 : decode (mB 33) 93 = .ok (.iinc 8 1, 3) := by decide +kernel
theorem k33_96 : decode (mB 33) 96 = .ok (.goto (-52), 3) := by decide +kernel
theorem k33_99 : decode (mB 33) 99 = .ok (.iload 7, 2) := by decide +kernel
theorem k33_101 : decode (mB 33) 101 = .ok (.ireturn, 1) ∧ mR 33 = (some .int) := by decide +kernel
-- 34: ChairPast$Foresight.alterStool:(II)V, locals 3
theorem l34 : mL 34 = 3 := by decide +kernel
theorem k34_0 : decode (mB 34) 0 = .ok (.iload_n 1, 1) := by decide +kernel
theorem k34_1 : decode (mB 34) 1 = .ok (.lookupswitch 49 #[(0, 27), (1, 38)], 27) := by decide +kernel
theorem k34_28 : decode (mB 34) 28 = .ok (.aload_n 0, 1) := by decide +kernel
theorem k34_29 : decode (mB 34) 29 = .ok (.getfield 48, 3) ∧ tF (mO 34) 48 = some (3, 3, 1, 1) := by decide +kernel
theorem k34_32 : decode (mB 34) 32 = .ok (.iload_n 2, 1) := by decide +kernel
theorem k34_33 : decode (mB 34) 33 = .ok (.putfield 81, 3) ∧ tF (mO 34) 81 = some (1, 1, 0, 0) := by decide +kernel
theorem k34_36 : decode (mB 34) 36 = .ok (.goto 43, 3) := by decide +kernel
theorem k34_39 : decode (mB 34) 39 = .ok (.aload_n 0, 1) := by decide +kernel
theorem k34_40 : decode (mB 34) 40 = .ok (.getfield 48, 3) ∧ tF (mO 34) 48 = some (3, 3, 1, 1) := by decide +kernel
theorem k34_43 : decode (mB 34) 43 = .ok (.iload_n 2, 1) := by decide +kernel
theorem k34_44 : decode (mB 34) 44 = .ok (.putfield 85, 3) ∧ tF (mO 34) 85 = some (1, 2, 0, 0) := by decide +kernel
theorem k34_47 : decode (mB 34) 47 = .ok (.goto 32, 3) := by decide +kernel
theorem k34_50 : decode (mB 34) 50 = .ok (.iload_n 2, 1) := by decide +kernel
theorem k34_51 : decode (mB 34) 51 = .ok (.iconst 1, 1) := by decide +kernel
theorem k34_52 : decode (mB 34) 52 = .ok (.if_icmp .lt 27, 3) := by decide +kernel
theorem k34_55 : decode (mB 34) 55 = .ok (.iload_n 2, 1) := by decide +kernel
theorem k34_56 : decode (mB 34) 56 = .ok (.aload_n 0, 1) := by decide +kernel
theorem k34_57 : decode (mB 34) 57 = .ok (.getfield 31, 3) ∧ tF (mO 34) 31 = some (3, 2, 1, 1) := by decide +kernel
theorem k34_60 : decode (mB 34) 60 = .ok (.arraylength, 1) := by decide +kernel
theorem k34_61 : decode (mB 34) 61 = .ok (.if_icmp .gt 18, 3) := by decide +kernel
theorem k34_64 : decode (mB 34) 64 = .ok (.aload_n 0, 1) := by decide +kernel
theorem k34_65 : decode (mB 34) 65 = .ok (.getfield 48, 3) ∧ tF (mO 34) 48 = some (3, 3, 1, 1) := by decide +kernel
theorem k34_68 : decode (mB 34) 68 = .ok (.aload_n 0, 1) := by decide +kernel
theorem k34_69 : decode (mB 34) 69 = .ok (.getfield 31, 3) ∧ tF (mO 34) 31 = some (3, 2, 1, 1) := by decide +kernel
theorem k34_72 : decode (mB 34) 72 = .ok (.iload_n 2, 1) := by decide +kernel
theorem k34_73 : decode (mB 34) 73 = .ok (.iconst 1, 1) := by decide +kernel
theorem k34_74 : decode (mB 34) 74 = .ok (.isub, 1) := by decide +kernel
theorem k34_75 : decode (mB 34) 75 = .ok (.aaload, 1) := by decide +kernel
theorem k34_76 : decode (mB 34) 76 = .ok (.putfield 170, 3) ∧ tF (mO 34) 170 = some (1, 0, 1, 0) := by decide +kernel
theorem k34_79 : decode (mB 34) 79 = .ok (.return_, 1) ∧ mR 34 = none := by decide +kernel
-- 35: ChairPast$Foresight.stoolGives:([II)Z, locals 4
theorem l35 : mL 35 = 4 := by decide +kernel
theorem k35_0 : decode (mB 35) 0 = .ok (.iconst 0, 1) := by decide +kernel
theorem k35_1 : decode (mB 35) 1 = .ok (.istore_n 3, 1) := by decide +kernel
theorem k35_2 : decode (mB 35) 2 = .ok (.iload_n 3, 1) := by decide +kernel
theorem k35_3 : decode (mB 35) 3 = .ok (.aload_n 0, 1) := by decide +kernel
theorem k35_4 : decode (mB 35) 4 = .ok (.getfield 27, 3) ∧ tF (mO 35) 27 = some (3, 0, 1, 1) := by decide +kernel
theorem k35_7 : decode (mB 35) 7 = .ok (.getfield 88, 3) ∧ tF (mO 35) 88 = some (8, 7, 0, 0) := by decide +kernel
theorem k35_10 : decode (mB 35) 10 = .ok (.if_icmp .ge 24, 3) := by decide +kernel
theorem k35_13 : decode (mB 35) 13 = .ok (.aload_n 0, 1) := by decide +kernel
theorem k35_14 : decode (mB 35) 14 = .ok (.iload_n 3, 1) := by decide +kernel
theorem k35_15 : decode (mB 35) 15 = .ok (.invokevirtual 77, 3) ∧ tVn (mO 35) 77 = some 1 ∧ tV (mO 35) 77 3 = some 19 := by decide +kernel
theorem k35_18 : decode (mB 35) 18 = .ok (.aload_n 1, 1) := by decide +kernel
theorem k35_19 : decode (mB 35) 19 = .ok (.iload_n 2, 1) := by decide +kernel
theorem k35_20 : decode (mB 35) 20 = .ok (.iload_n 3, 1) := by decide +kernel
theorem k35_21 : decode (mB 35) 21 = .ok (.iadd, 1) := by decide +kernel
theorem k35_22 : decode (mB 35) 22 = .ok (.iaload, 1) := by decide +kernel
theorem k35_23 : decode (mB 35) 23 = .ok (.if_icmp .eq 5, 3) := by decide +kernel
theorem k35_26 : decode (mB 35) 26 = .ok (.iconst 0, 1) := by decide +kernel
theorem k35_27 : decode (mB 35) 27 = .ok (.ireturn, 1) ∧ mR 35 = (some .boolean) := by decide +kernel
theorem k35_28 : decode (mB 35) 28 = .ok (.iinc 3 1, 3) := by decide +kernel
theorem k35_31 : decode (mB 35) 31 = .ok (.goto (-29), 3) := by decide +kernel
theorem k35_34 : decode (mB 35) 34 = .ok (.iconst 1, 1) := by decide +kernel
theorem k35_35 : decode (mB 35) 35 = .ok (.ireturn, 1) ∧ mR 35 = (some .boolean) := by decide +kernel
-- 36: ChairPast$Foresight.chanceOfPeace:(III)I, locals 7
theorem l36 : mL 36 = 7 := by decide +kernel
theorem k36_0 : decode (mB 36) 0 = .ok (.aload_n 0, 1) := by decide +kernel
theorem k36_1 : decode (mB 36) 1 = .ok (.getfield 27, 3) ∧ tF (mO 36) 27 = some (3, 0, 1, 1) := by decide +kernel
theorem k36_4 : decode (mB 36) 4 = .ok (.aload_n 0, 1) := by decide +kernel
theorem k36_5 : decode (mB 36) 5 = .ok (.getfield 14, 3) ∧ tF (mO 36) 14 = some (3, 4, 1, 1) := by decide +kernel
theorem k36_8 : decode (mB 36) 8 = .ok (.invokevirtual 52, 3) ∧ tVn (mO 36) 52 = some 1 ∧ tV (mO 36) 52 8 = some 101 := by decide +kernel
theorem k36_11 : decode (mB 36) 11 = .ok (.iconst 0, 1) := by decide +kernel
theorem k36_12 : decode (mB 36) 12 = .ok (.istore 4, 2) := by decide +kernel
theorem k36_14 : decode (mB 36) 14 = .ok (.iconst 1, 1) := by decide +kernel
theorem k36_15 : decode (mB 36) 15 = .ok (.istore 5, 2) := by decide +kernel
theorem k36_17 : decode (mB 36) 17 = .ok (.iconst 0, 1) := by decide +kernel
theorem k36_18 : decode (mB 36) 18 = .ok (.istore 6, 2) := by decide +kernel
theorem k36_20 : decode (mB 36) 20 = .ok (.iload 6, 2) := by decide +kernel
theorem k36_22 : decode (mB 36) 22 = .ok (.aload_n 0, 1) := by decide +kernel
theorem k36_23 : decode (mB 36) 23 = .ok (.getfield 27, 3) ∧ tF (mO 36) 27 = some (3, 0, 1, 1) := by decide +kernel
theorem k36_26 : decode (mB 36) 26 = .ok (.getfield 100, 3) ∧ tF (mO 36) 100 = some (8, 6, 0, 0) := by decide +kernel
theorem k36_29 : decode (mB 36) 29 = .ok (.if_icmp .ge 16, 3) := by decide +kernel
theorem k36_32 : decode (mB 36) 32 = .ok (.iload 5, 2) := by decide +kernel
theorem k36_34 : decode (mB 36) 34 = .ok (.bipush 10, 2) := by decide +kernel
theorem k36_36 : decode (mB 36) 36 = .ok (.imul, 1) := by decide +kernel
theorem k36_37 : decode (mB 36) 37 = .ok (.istore 5, 2) := by decide +kernel
theorem k36_39 : decode (mB 36) 39 = .ok (.iinc 6 1, 3) := by decide +kernel
theorem k36_42 : decode (mB 36) 42 = .ok (.goto (-22), 3) := by decide +kernel
theorem k36_45 : decode (mB 36) 45 = .ok (.iconst 0, 1) := by decide +kernel
theorem k36_46 : decode (mB 36) 46 = .ok (.istore 6, 2) := by decide +kernel
theorem k36_48 : decode (mB 36) 48 = .ok (.iload 6, 2) := by decide +kernel
theorem k36_50 : decode (mB 36) 50 = .ok (.iconst 1, 1) := by decide +kernel
theorem k36_51 : decode (mB 36) 51 = .ok (.aload_n 0, 1) := by decide +kernel
theorem k36_52 : decode (mB 36) 52 = .ok (.getfield 27, 3) ∧ tF (mO 36) 27 = some (3, 0, 1, 1) := by decide +kernel
theorem k36_55 : decode (mB 36) 55 = .ok (.getfield 100, 3) ∧ tF (mO 36) 100 = some (8, 6, 0, 0) := by decide +kernel
theorem k36_58 : decode (mB 36) 58 = .ok (.ishl, 1) := by decide +kernel
theorem k36_59 : decode (mB 36) 59 = .ok (.if_icmp .ge 31, 3) := by decide +kernel
theorem k36_62 : decode (mB 36) 62 = .ok (.aload_n 0, 1) := by decide +kernel
theorem k36_63 : decode (mB 36) 63 = .ok (.iload 6, 2) := by decide +kernel
theorem k36_65 : decode (mB 36) 65 = .ok (.invokevirtual 174, 3) ∧ tVn (mO 36) 174 = some 1 ∧ tV (mO 36) 174 3 = some 37 := by decide +kernel
theorem k36_68 : decode (mB 36) 68 = .ok (.iload_n 1, 1) := by decide +kernel
theorem k36_69 : decode (mB 36) 69 = .ok (.if_icmp .lt 15, 3) := by decide +kernel
theorem k36_72 : decode (mB 36) 72 = .ok (.iload 4, 2) := by decide +kernel
theorem k36_74 : decode (mB 36) 74 = .ok (.aload_n 0, 1) := by decide +kernel
theorem k36_75 : decode (mB 36) 75 = .ok (.iload 6, 2) := by decide +kernel
theorem k36_77 : decode (mB 36) 77 = .ok (.iload_n 2, 1) := by decide +kernel
theorem k36_78 : decode (mB 36) 78 = .ok (.invokevirtual 177, 3) ∧ tVn (mO 36) 177 = some 2 ∧ tV (mO 36) 177 3 = some 38 := by decide +kernel
theorem k36_81 : decode (mB 36) 81 = .ok (.iadd, 1) := by decide +kernel
theorem k36_82 : decode (mB 36) 82 = .ok (.istore 4, 2) := by decide +kernel
theorem k36_84 : decode (mB 36) 84 = .ok (.iinc 6 1, 3) := by decide +kernel
theorem k36_87 : decode (mB 36) 87 = .ok (.goto (-39), 3) := by decide +kernel
theorem k36_90 : decode (mB 36) 90 = .ok (.iload 5, 2) := by decide +kernel
theorem k36_92 : decode (mB 36) 92 = .ok (.iload 4, 2) := by decide +kernel
theorem k36_94 : decode (mB 36) 94 = .ok (.invokestatic 180, 3) ∧ tM (mO 36) 180 = none ∧ tS (mO 36) 180 = some 39 := by decide +kernel
theorem k36_97 : decode (mB 36) 97 = .ok (.istore 6, 2) := by decide +kernel
theorem k36_99 : decode (mB 36) 99 = .ok (.iload_n 3, 1) := by decide +kernel
theorem k36_100 : decode (mB 36) 100 = .ok (.ifCond .ne 8, 3) := by decide +kernel
theorem k36_103 : decode (mB 36) 103 = .ok (.iload 4, 2) := by decide +kernel
theorem k36_105 : decode (mB 36) 105 = .ok (.goto 5, 3) := by decide +kernel
theorem k36_108 : decode (mB 36) 108 = .ok (.iload 5, 2) := by decide +kernel
theorem k36_110 : decode (mB 36) 110 = .ok (.iload 6, 2) := by decide +kernel
theorem k36_112 : decode (mB 36) 112 = .ok (.idiv, 1) := by decide +kernel
theorem k36_113 : decode (mB 36) 113 = .ok (.ireturn, 1) ∧ mR 36 = (some .int) := by decide +kernel
-- 37: ChairPast$Foresight.peaceIfRecaned:(I)I, locals 4
theorem l37 : mL 37 = 4 := by decide +kernel
theorem k37_0 : decode (mB 37) 0 = .ok (.aload_n 0, 1) := by decide +kernel
theorem k37_1 : decode (mB 37) 1 = .ok (.getfield 40, 3) ∧ tF (mO 37) 40 = some (3, 1, 1, 1) := by decide +kernel
theorem k37_4 : decode (mB 37) 4 = .ok (.aload_n 0, 1) := by decide +kernel
theorem k37_5 : decode (mB 37) 5 = .ok (.getfield 14, 3) ∧ tF (mO 37) 14 = some (3, 4, 1, 1) := by decide +kernel
theorem k37_8 : decode (mB 37) 8 = .ok (.invokevirtual 56, 3) ∧ tVn (mO 37) 56 = some 1 ∧ tV (mO 37) 56 8 = some 102 := by decide +kernel
theorem k37_11 : decode (mB 37) 11 = .ok (.iconst 0, 1) := by decide +kernel
theorem k37_12 : decode (mB 37) 12 = .ok (.istore_n 2, 1) := by decide +kernel
theorem k37_13 : decode (mB 37) 13 = .ok (.iload_n 2, 1) := by decide +kernel
theorem k37_14 : decode (mB 37) 14 = .ok (.aload_n 0, 1) := by decide +kernel
theorem k37_15 : decode (mB 37) 15 = .ok (.getfield 40, 3) ∧ tF (mO 37) 40 = some (3, 1, 1, 1) := by decide +kernel
theorem k37_18 : decode (mB 37) 18 = .ok (.getfield 100, 3) ∧ tF (mO 37) 100 = some (8, 6, 0, 0) := by decide +kernel
theorem k37_21 : decode (mB 37) 21 = .ok (.if_icmp .ge 31, 3) := by decide +kernel
theorem k37_24 : decode (mB 37) 24 = .ok (.iload_n 1, 1) := by decide +kernel
theorem k37_25 : decode (mB 37) 25 = .ok (.iload_n 2, 1) := by decide +kernel
theorem k37_26 : decode (mB 37) 26 = .ok (.ishr, 1) := by decide +kernel
theorem k37_27 : decode (mB 37) 27 = .ok (.iconst 1, 1) := by decide +kernel
theorem k37_28 : decode (mB 37) 28 = .ok (.iand, 1) := by decide +kernel
theorem k37_29 : decode (mB 37) 29 = .ok (.iconst 1, 1) := by decide +kernel
theorem k37_30 : decode (mB 37) 30 = .ok (.if_icmp .ne 16, 3) := by decide +kernel
theorem k37_33 : decode (mB 37) 33 = .ok (.aload_n 0, 1) := by decide +kernel
theorem k37_34 : decode (mB 37) 34 = .ok (.getfield 40, 3) ∧ tF (mO 37) 40 = some (3, 1, 1, 1) := by decide +kernel
theorem k37_37 : decode (mB 37) 37 = .ok (.getfield 69, 3) ∧ tF (mO 37) 69 = some (8, 1, 1, 1) := by decide +kernel
theorem k37_40 : decode (mB 37) 40 = .ok (.iload_n 2, 1) := by decide +kernel
theorem k37_41 : decode (mB 37) 41 = .ok (.aaload, 1) := by decide +kernel
theorem k37_42 : decode (mB 37) 42 = .ok (.iconst 0, 1) := by decide +kernel
theorem k37_43 : decode (mB 37) 43 = .ok (.putfield 85, 3) ∧ tF (mO 37) 85 = some (1, 2, 0, 0) := by decide +kernel
theorem k37_46 : decode (mB 37) 46 = .ok (.iinc 2 1, 3) := by decide +kernel
theorem k37_49 : decode (mB 37) 49 = .ok (.goto (-36), 3) := by decide +kernel
theorem k37_52 : decode (mB 37) 52 = .ok (.iconst 0, 1) := by decide +kernel
theorem k37_53 : decode (mB 37) 53 = .ok (.istore_n 2, 1) := by decide +kernel
theorem k37_54 : decode (mB 37) 54 = .ok (.iload_n 2, 1) := by decide +kernel
theorem k37_55 : decode (mB 37) 55 = .ok (.aload_n 0, 1) := by decide +kernel
theorem k37_56 : decode (mB 37) 56 = .ok (.getfield 40, 3) ∧ tF (mO 37) 40 = some (3, 1, 1, 1) := by decide +kernel
theorem k37_59 : decode (mB 37) 59 = .ok (.getfield 88, 3) ∧ tF (mO 37) 88 = some (8, 7, 0, 0) := by decide +kernel
theorem k37_62 : decode (mB 37) 62 = .ok (.if_icmp .ge 43, 3) := by decide +kernel
theorem k37_65 : decode (mB 37) 65 = .ok (.aload_n 0, 1) := by decide +kernel
theorem k37_66 : decode (mB 37) 66 = .ok (.getfield 40, 3) ∧ tF (mO 37) 40 = some (3, 1, 1, 1) := by decide +kernel
theorem k37_69 : decode (mB 37) 69 = .ok (.invokevirtual 183, 3) ∧ tVn (mO 37) 183 = some 0 ∧ tV (mO 37) 183 8 = some 97 := by decide +kernel
theorem k37_72 : decode (mB 37) 72 = .ok (.istore_n 3, 1) := by decide +kernel
theorem k37_73 : decode (mB 37) 73 = .ok (.iload_n 3, 1) := by decide +kernel
theorem k37_74 : decode (mB 37) 74 = .ok (.ldc 106, 2) ∧ tK (mO 37) 106 = some (-1000000) := by decide +kernel
theorem k37_76 : decode (mB 37) 76 = .ok (.if_icmp .eq 23, 3) := by decide +kernel
theorem k37_79 : decode (mB 37) 79 = .ok (.aload_n 0, 1) := by decide +kernel
theorem k37_80 : decode (mB 37) 80 = .ok (.getfield 40, 3) ∧ tF (mO 37) 40 = some (3, 1, 1, 1) := by decide +kernel
theorem k37_83 : decode (mB 37) 83 = .ok (.iload_n 2, 1) := by decide +kernel
theorem k37_84 : decode (mB 37) 84 = .ok (.invokevirtual 119, 3) ∧ tVn (mO 37) 119 = some 1 ∧ tV (mO 37) 119 8 = some 86 := by decide +kernel
theorem k37_87 : decode (mB 37) 87 = .ok (.ifCond .ne 12, 3) := by decide +kernel
theorem k37_90 : decode (mB 37) 90 = .ok (.aload_n 0, 1) := by decide +kernel
theorem k37_91 : decode (mB 37) 91 = .ok (.getfield 40, 3) ∧ tF (mO 37) 40 = some (3, 1, 1, 1) := by decide +kernel
theorem k37_94 : decode (mB 37) 94 = .ok (.iload_n 2, 1) := by decide +kernel
theorem k37_95 : decode (mB 37) 95 = .ok (.iload_n 3, 1) := by decide +kernel
theorem k37_96 : decode (mB 37) 96 = .ok (.invokevirtual 186, 3) ∧ tVn (mO 37) 186 = some 2 ∧ tV (mO 37) 186 8 = some 88 := by decide +kernel
theorem k37_99 : decode (mB 37) 99 = .ok (.iinc 2 1, 3) := by decide +kernel
theorem k37_102 : decode (mB 37) 102 = .ok (.goto (-48), 3) := by decide +kernel
theorem k37_105 : decode (mB 37) 105 = .ok (.aload_n 0, 1) := by decide +kernel
theorem k37_106 : decode (mB 37) 106 = .ok (.getfield 40, 3) ∧ tF (mO 37) 40 = some (3, 1, 1, 1) := by decide +kernel
theorem k37_109 : decode (mB 37) 109 = .ok (.invokevirtual 136, 3) ∧ tVn (mO 37) 136 = some 0 ∧ tV (mO 37) 136 8 = some 92 := by decide +kernel
theorem k37_112 : decode (mB 37) 112 = .ok (.ireturn, 1) ∧ mR 37 = (some .int) := by decide +kernel
-- 38: ChairPast$Foresight.weightOf:(II)I, locals 5
theorem l38 : mL 38 = 5 := by decide +kernel
theorem k38_0 : decode (mB 38) 0 = .ok (.iconst 1, 1) := by decide +kernel
theorem k38_1 : decode (mB 38) 1 = .ok (.istore_n 3, 1) := by decide +kernel
theorem k38_2 : decode (mB 38) 2 = .ok (.iconst 0, 1) := by decide +kernel
theorem k38_3 : decode (mB 38) 3 = .ok (.istore 4, 2) := by decide +kernel
theorem k38_5 : decode (mB 38) 5 = .ok (.iload 4, 2) := by decide +kernel
theorem k38_7 : decode (mB 38) 7 = .ok (.aload_n 0, 1) := by decide +kernel
theorem k38_8 : decode (mB 38) 8 = .ok (.getfield 27, 3) ∧ tF (mO 38) 27 = some (3, 0, 1, 1) := by decide +kernel
theorem k38_11 : decode (mB 38) 11 = .ok (.getfield 100, 3) ∧ tF (mO 38) 100 = some (8, 6, 0, 0) := by decide +kernel
theorem k38_14 : decode (mB 38) 14 = .ok (.if_icmp .ge 30, 3) := by decide +kernel
theorem k38_17 : decode (mB 38) 17 = .ok (.iload_n 3, 1) := by decide +kernel
theorem k38_18 : decode (mB 38) 18 = .ok (.iload_n 1, 1) := by decide +kernel
theorem k38_19 : decode (mB 38) 19 = .ok (.iload 4, 2) := by decide +kernel
theorem k38_21 : decode (mB 38) 21 = .ok (.ishr, 1) := by decide +kernel
theorem k38_22 : decode (mB 38) 22 = .ok (.iconst 1, 1) := by decide +kernel
theorem k38_23 : decode (mB 38) 23 = .ok (.iand, 1) := by decide +kernel
theorem k38_24 : decode (mB 38) 24 = .ok (.iconst 1, 1) := by decide +kernel
theorem k38_25 : decode (mB 38) 25 = .ok (.if_icmp .ne 7, 3) := by decide +kernel
theorem k38_28 : decode (mB 38) 28 = .ok (.iload_n 2, 1) := by decide +kernel
theorem k38_29 : decode (mB 38) 29 = .ok (.goto 7, 3) := by decide +kernel
theorem k38_32 : decode (mB 38) 32 = .ok (.bipush 10, 2) := by decide +kernel
theorem k38_34 : decode (mB 38) 34 = .ok (.iload_n 2, 1) := by decide +kernel
theorem k38_35 : decode (mB 38) 35 = .ok (.isub, 1) := by decide +kernel
theorem k38_36 : decode (mB 38) 36 = .ok (.imul, 1) := by decide +kernel
theorem k38_37 : decode (mB 38) 37 = .ok (.istore_n 3, 1) := by decide +kernel
theorem k38_38 : decode (mB 38) 38 = .ok (.iinc 4 1, 3) := by decide +kernel
theorem k38_41 : decode (mB 38) 41 = .ok (.goto (-36), 3) := by decide +kernel
theorem k38_44 : decode (mB 38) 44 = .ok (.iload_n 3, 1) := by decide +kernel
theorem k38_45 : decode (mB 38) 45 = .ok (.ireturn, 1) ∧ mR 38 = (some .int) := by decide +kernel
end
section
-- 39: ChairPast$Foresight.commonDivisor:(II)I, locals 6
theorem l39 : mL 39 = 6 := by decide +kernel
theorem k39_0 : decode (mB 39) 0 = .ok (.iload_n 0, 1) := by decide +kernel
theorem k39_1 : decode (mB 39) 1 = .ok (.iconst 1, 1) := by decide +kernel
theorem k39_2 : decode (mB 39) 2 = .ok (.invokestatic 150, 3) ∧ tM (mO 39) 150 = some 3 := by decide +kernel
theorem k39_5 : decode (mB 39) 5 = .ok (.istore_n 2, 1) := by decide +kernel
theorem k39_6 : decode (mB 39) 6 = .ok (.iload_n 1, 1) := by decide +kernel
theorem k39_7 : decode (mB 39) 7 = .ok (.istore_n 3, 1) := by decide +kernel
theorem k39_8 : decode (mB 39) 8 = .ok (.iconst 0, 1) := by decide +kernel
theorem k39_9 : decode (mB 39) 9 = .ok (.istore 4, 2) := by decide +kernel
theorem k39_11 : decode (mB 39) 11 = .ok (.iload 4, 2) := by decide +kernel
theorem k39_13 : decode (mB 39) 13 = .ok (.bipush 100, 2) := by decide +kernel
theorem k39_15 : decode (mB 39) 15 = .ok (.if_icmp .ge 23, 3) := by decide +kernel
theorem k39_18 : decode (mB 39) 18 = .ok (.iload_n 3, 1) := by decide +kernel
theorem k39_19 : decode (mB 39) 19 = .ok (.ifCond .le 19, 3) := by decide +kernel
theorem k39_22 : decode (mB 39) 22 = .ok (.iload_n 2, 1) := by decide +kernel
theorem k39_23 : decode (mB 39) 23 = .ok (.iload_n 3, 1) := by decide +kernel
theorem k39_24 : decode (mB 39) 24 = .ok (.irem, 1) := by decide +kernel
theorem k39_25 : decode (mB 39) 25 = .ok (.istore 5, 2) := by decide +kernel
theorem k39_27 : decode (mB 39) 27 = .ok (.iload_n 3, 1) := by decide +kernel
theorem k39_28 : decode (mB 39) 28 = .ok (.istore_n 2, 1) := by decide +kernel
theorem k39_29 : decode (mB 39) 29 = .ok (.iload 5, 2) := by decide +kernel
theorem k39_31 : decode (mB 39) 31 = .ok (.istore_n 3, 1) := by decide +kernel
theorem k39_32 : decode (mB 39) 32 = .ok (.iinc 4 1, 3) := by decide +kernel
theorem k39_35 : decode (mB 39) 35 = .ok (.goto (-24), 3) := by decide +kernel
theorem k39_38 : decode (mB 39) 38 = .ok (.iload_n 2, 1) := by decide +kernel
theorem k39_39 : decode (mB 39) 39 = .ok (.ireturn, 1) ∧ mR 39 = (some .int) := by decide +kernel
-- 40: ChairPast$Foresight.eveningOf:(III)I, locals 8
theorem l40 : mL 40 = 8 := by decide +kernel
theorem k40_0 : decode (mB 40) 0 = .ok (.aload_n 0, 1) := by decide +kernel
theorem k40_1 : decode (mB 40) 1 = .ok (.invokevirtual 107, 3) ∧ tVn (mO 40) 107 = some 0 ∧ tV (mO 40) 107 3 = some 18 := by decide +kernel
theorem k40_4 : decode (mB 40) 4 = .ok (.iconst 0, 1) := by decide +kernel
theorem k40_5 : decode (mB 40) 5 = .ok (.istore 4, 2) := by decide +kernel
theorem k40_7 : decode (mB 40) 7 = .ok (.iload_n 2, 1) := by decide +kernel
theorem k40_8 : decode (mB 40) 8 = .ok (.i2l, 1) := by decide +kernel
theorem k40_9 : decode (mB 40) 9 = .ok (.lstore 5, 2) := by decide +kernel
theorem k40_11 : decode (mB 40) 11 = .ok (.iconst 0, 1) := by decide +kernel
theorem k40_12 : decode (mB 40) 12 = .ok (.istore 7, 2) := by decide +kernel
theorem k40_14 : decode (mB 40) 14 = .ok (.iload 7, 2) := by decide +kernel
theorem k40_16 : decode (mB 40) 16 = .ok (.iload_n 1, 1) := by decide +kernel
theorem k40_17 : decode (mB 40) 17 = .ok (.if_icmp .ge 32, 3) := by decide +kernel
theorem k40_20 : decode (mB 40) 20 = .ok (.lload 5, 2) := by decide +kernel
theorem k40_22 : decode (mB 40) 22 = .ok (.ldc2_w 189, 3) ∧ tKK (mO 40) 189 = some (16807) := by decide +kernel
theorem k40_25 : decode (mB 40) 25 = .ok (.lmul, 1) := by decide +kernel
theorem k40_26 : decode (mB 40) 26 = .ok (.ldc2_w 191, 3) ∧ tKK (mO 40) 191 = some (2147483647) := by decide +kernel
theorem k40_29 : decode (mB 40) 29 = .ok (.lrem, 1) := by decide +kernel
theorem k40_30 : decode (mB 40) 30 = .ok (.lstore 5, 2) := by decide +kernel
theorem k40_32 : decode (mB 40) 32 = .ok (.iload 4, 2) := by decide +kernel
theorem k40_34 : decode (mB 40) 34 = .ok (.aload_n 0, 1) := by decide +kernel
theorem k40_35 : decode (mB 40) 35 = .ok (.lload 5, 2) := by decide +kernel
theorem k40_37 : decode (mB 40) 37 = .ok (.invokevirtual 193, 3) ∧ tVn (mO 40) 193 = some 1 ∧ tV (mO 40) 193 3 = some 41 := by decide +kernel
theorem k40_40 : decode (mB 40) 40 = .ok (.iadd, 1) := by decide +kernel
theorem k40_41 : decode (mB 40) 41 = .ok (.istore 4, 2) := by decide +kernel
theorem k40_43 : decode (mB 40) 43 = .ok (.iinc 7 1, 3) := by decide +kernel
theorem k40_46 : decode (mB 40) 46 = .ok (.goto (-32), 3) := by decide +kernel
theorem k40_49 : decode (mB 40) 49 = .ok (.iload_n 3, 1) := by decide +kernel
theorem k40_50 : decode (mB 40) 50 = .ok (.ifCond .ne 8, 3) := by decide +kernel
theorem k40_53 : decode (mB 40) 53 = .ok (.iload 4, 2) := by decide +kernel
theorem k40_55 : decode (mB 40) 55 = .ok (.goto 10, 3) := by decide +kernel
theorem k40_58 : decode (mB 40) 58 = .ok (.aload_n 0, 1) := by decide +kernel
theorem k40_59 : decode (mB 40) 59 = .ok (.getfield 40, 3) ∧ tF (mO 40) 40 = some (3, 1, 1, 1) := by decide +kernel
theorem k40_62 : decode (mB 40) 62 = .ok (.invokevirtual 197, 3) ∧ tVn (mO 40) 197 = some 0 ∧ tV (mO 40) 197 8 = some 100 := by decide +kernel
theorem k40_65 : decode (mB 40) 65 = .ok (.ireturn, 1) ∧ mR 40 = (some .int) := by decide +kernel
-- 41: ChairPast$Foresight.drawnBearing:(J)I, locals 5
theorem l41 : mL 41 = 5 := by decide +kernel
theorem k41_0 : decode (mB 41) 0 = .ok (.aload_n 0, 1) := by decide +kernel
theorem k41_1 : decode (mB 41) 1 = .ok (.getfield 40, 3) ∧ tF (mO 41) 40 = some (3, 1, 1, 1) := by decide +kernel
theorem k41_4 : decode (mB 41) 4 = .ok (.getfield 88, 3) ∧ tF (mO 41) 88 = some (8, 7, 0, 0) := by decide +kernel
theorem k41_7 : decode (mB 41) 7 = .ok (.ifCond .eq 13, 3) := by decide +kernel
theorem k41_10 : decode (mB 41) 10 = .ok (.aload_n 0, 1) := by decide +kernel
theorem k41_11 : decode (mB 41) 11 = .ok (.getfield 40, 3) ∧ tF (mO 41) 40 = some (3, 1, 1, 1) := by decide +kernel
theorem k41_14 : decode (mB 41) 14 = .ok (.getfield 100, 3) ∧ tF (mO 41) 100 = some (8, 6, 0, 0) := by decide +kernel
theorem k41_17 : decode (mB 41) 17 = .ok (.ifCond .ne 5, 3) := by decide +kernel
theorem k41_20 : decode (mB 41) 20 = .ok (.iconst 0, 1) := by decide +kernel
theorem k41_21 : decode (mB 41) 21 = .ok (.ireturn, 1) ∧ mR 41 = (some .int) := by decide +kernel
theorem k41_22 : decode (mB 41) 22 = .ok (.lload_n 1, 1) := by decide +kernel
theorem k41_23 : decode (mB 41) 23 = .ok (.aload_n 0, 1) := by decide +kernel
theorem k41_24 : decode (mB 41) 24 = .ok (.getfield 40, 3) ∧ tF (mO 41) 40 = some (3, 1, 1, 1) := by decide +kernel
theorem k41_27 : decode (mB 41) 27 = .ok (.getfield 88, 3) ∧ tF (mO 41) 88 = some (8, 7, 0, 0) := by decide +kernel
theorem k41_30 : decode (mB 41) 30 = .ok (.i2l, 1) := by decide +kernel
theorem k41_31 : decode (mB 41) 31 = .ok (.lrem, 1) := by decide +kernel
theorem k41_32 : decode (mB 41) 32 = .ok (.l2i, 1) := by decide +kernel
theorem k41_33 : decode (mB 41) 33 = .ok (.istore_n 3, 1) := by decide +kernel
theorem k41_34 : decode (mB 41) 34 = .ok (.lload_n 1, 1) := by decide +kernel
theorem k41_35 : decode (mB 41) 35 = .ok (.aload_n 0, 1) := by decide +kernel
theorem k41_36 : decode (mB 41) 36 = .ok (.getfield 40, 3) ∧ tF (mO 41) 40 = some (3, 1, 1, 1) := by decide +kernel
theorem k41_39 : decode (mB 41) 39 = .ok (.getfield 100, 3) ∧ tF (mO 41) 100 = some (8, 6, 0, 0) := by decide +kernel
theorem k41_42 : decode (mB 41) 42 = .ok (.i2l, 1) := by decide +kernel
theorem k41_43 : decode (mB 41) 43 = .ok (.lrem, 1) := by decide +kernel
theorem k41_44 : decode (mB 41) 44 = .ok (.l2i, 1) := by decide +kernel
theorem k41_45 : decode (mB 41) 45 = .ok (.istore 4, 2) := by decide +kernel
theorem k41_47 : decode (mB 41) 47 = .ok (.aload_n 0, 1) := by decide +kernel
theorem k41_48 : decode (mB 41) 48 = .ok (.getfield 40, 3) ∧ tF (mO 41) 40 = some (3, 1, 1, 1) := by decide +kernel
theorem k41_51 : decode (mB 41) 51 = .ok (.getfield 69, 3) ∧ tF (mO 41) 69 = some (8, 1, 1, 1) := by decide +kernel
theorem k41_54 : decode (mB 41) 54 = .ok (.iload 4, 2) := by decide +kernel
theorem k41_56 : decode (mB 41) 56 = .ok (.aaload, 1) := by decide +kernel
theorem k41_57 : decode (mB 41) 57 = .ok (.aload_n 0, 1) := by decide +kernel
theorem k41_58 : decode (mB 41) 58 = .ok (.getfield 40, 3) ∧ tF (mO 41) 40 = some (3, 1, 1, 1) := by decide +kernel
theorem k41_61 : decode (mB 41) 61 = .ok (.getfield 59, 3) ∧ tF (mO 41) 59 = some (8, 2, 1, 1) := by decide +kernel
theorem k41_64 : decode (mB 41) 64 = .ok (.iload_n 3, 1) := by decide +kernel
theorem k41_65 : decode (mB 41) 65 = .ok (.iaload, 1) := by decide +kernel
theorem k41_66 : decode (mB 41) 66 = .ok (.aload_n 0, 1) := by decide +kernel
theorem k41_67 : decode (mB 41) 67 = .ok (.getfield 40, 3) ∧ tF (mO 41) 40 = some (3, 1, 1, 1) := by decide +kernel
theorem k41_70 : decode (mB 41) 70 = .ok (.getfield 62, 3) ∧ tF (mO 41) 62 = some (8, 3, 1, 1) := by decide +kernel
theorem k41_73 : decode (mB 41) 73 = .ok (.iload_n 3, 1) := by decide +kernel
theorem k41_74 : decode (mB 41) 74 = .ok (.iaload, 1) := by decide +kernel
theorem k41_75 : decode (mB 41) 75 = .ok (.invokevirtual 65, 3) ∧ tVn (mO 41) 65 = some 2 ∧ tV (mO 41) 65 1 = some 8 := by decide +kernel
theorem k41_78 : decode (mB 41) 78 = .ok (.ireturn, 1) ∧ mR 41 = (some .int) := by decide +kernel
-- 43: ChairPast$Kind.sizeOf:(LChairPast$Chair;LChairPast$Line;)I, locals 3
theorem l43 : mL 43 = 3 := by decide +kernel
theorem k43_0 : decode (mB 43) 0 = .ok (.aload_n 2, 1) := by decide +kernel
theorem k43_1 : decode (mB 43) 1 = .ok (.bipush 10, 2) := by decide +kernel
theorem k43_3 : decode (mB 43) 3 = .ok (.invokevirtual 7, 3) ∧ tVn (mO 43) 7 = some 1 ∧ tV (mO 43) 7 4 = some 47 := by decide +kernel
theorem k43_6 : decode (mB 43) 6 = .ok (.pop, 1) := by decide +kernel
theorem k43_7 : decode (mB 43) 7 = .ok (.aload_n 1, 1) := by decide +kernel
theorem k43_8 : decode (mB 43) 8 = .ok (.getfield 13, 3) ∧ tF (mO 43) 13 = some (1, 3, 0, 0) := by decide +kernel
theorem k43_11 : decode (mB 43) 11 = .ok (.ireturn, 1) ∧ mR 43 = (some .int) := by decide +kernel
-- 44: ChairPast$Kind.markOf:(LChairPast$Chair;LChairPast$Line;)I, locals 3
theorem l44 : mL 44 = 3 := by decide +kernel
theorem k44_0 : decode (mB 44) 0 = .ok (.aload_n 2, 1) := by decide +kernel
theorem k44_1 : decode (mB 44) 1 = .ok (.bipush 20, 2) := by decide +kernel
theorem k44_3 : decode (mB 44) 3 = .ok (.invokevirtual 7, 3) ∧ tVn (mO 44) 7 = some 1 ∧ tV (mO 44) 7 4 = some 47 := by decide +kernel
theorem k44_6 : decode (mB 44) 6 = .ok (.pop, 1) := by decide +kernel
theorem k44_7 : decode (mB 44) 7 = .ok (.aload_n 1, 1) := by decide +kernel
theorem k44_8 : decode (mB 44) 8 = .ok (.getfield 19, 3) ∧ tF (mO 44) 19 = some (1, 1, 0, 0) := by decide +kernel
theorem k44_11 : decode (mB 44) 11 = .ok (.ireturn, 1) ∧ mR 44 = (some .int) := by decide +kernel
-- 46: ChairPast$Line.clear:()V, locals 1
theorem l46 : mL 46 = 1 := by decide +kernel
theorem k46_0 : decode (mB 46) 0 = .ok (.aload_n 0, 1) := by decide +kernel
theorem k46_1 : decode (mB 46) 1 = .ok (.iconst 0, 1) := by decide +kernel
theorem k46_2 : decode (mB 46) 2 = .ok (.putfield 21, 3) ∧ tF (mO 46) 21 = some (4, 1, 0, 0) := by decide +kernel
theorem k46_5 : decode (mB 46) 5 = .ok (.aload_n 0, 1) := by decide +kernel
theorem k46_6 : decode (mB 46) 6 = .ok (.iconst 0, 1) := by decide +kernel
theorem k46_7 : decode (mB 46) 7 = .ok (.putfield 25, 3) ∧ tF (mO 46) 25 = some (4, 2, 0, 0) := by decide +kernel
theorem k46_10 : decode (mB 46) 10 = .ok (.return_, 1) ∧ mR 46 = none := by decide +kernel
-- 47: ChairPast$Line.push:(I)Z, locals 2
theorem l47 : mL 47 = 2 := by decide +kernel
theorem k47_0 : decode (mB 47) 0 = .ok (.aload_n 0, 1) := by decide +kernel
theorem k47_1 : decode (mB 47) 1 = .ok (.getfield 21, 3) ∧ tF (mO 47) 21 = some (4, 1, 0, 0) := by decide +kernel
theorem k47_4 : decode (mB 47) 4 = .ok (.aload_n 0, 1) := by decide +kernel
theorem k47_5 : decode (mB 47) 5 = .ok (.getfield 15, 3) ∧ tF (mO 47) 15 = some (4, 0, 1, 1) := by decide +kernel
theorem k47_8 : decode (mB 47) 8 = .ok (.arraylength, 1) := by decide +kernel
theorem k47_9 : decode (mB 47) 9 = .ok (.if_icmp .lt 5, 3) := by decide +kernel
theorem k47_12 : decode (mB 47) 12 = .ok (.iconst 0, 1) := by decide +kernel
theorem k47_13 : decode (mB 47) 13 = .ok (.ireturn, 1) ∧ mR 47 = (some .boolean) := by decide +kernel
theorem k47_14 : decode (mB 47) 14 = .ok (.aload_n 0, 1) := by decide +kernel
theorem k47_15 : decode (mB 47) 15 = .ok (.getfield 15, 3) ∧ tF (mO 47) 15 = some (4, 0, 1, 1) := by decide +kernel
theorem k47_18 : decode (mB 47) 18 = .ok (.aload_n 0, 1) := by decide +kernel
theorem k47_19 : decode (mB 47) 19 = .ok (.getfield 21, 3) ∧ tF (mO 47) 21 = some (4, 1, 0, 0) := by decide +kernel
theorem k47_22 : decode (mB 47) 22 = .ok (.iload_n 1, 1) := by decide +kernel
theorem k47_23 : decode (mB 47) 23 = .ok (.iastore, 1) := by decide +kernel
theorem k47_24 : decode (mB 47) 24 = .ok (.aload_n 0, 1) := by decide +kernel
theorem k47_25 : decode (mB 47) 25 = .ok (.dup, 1) := by decide +kernel
theorem k47_26 : decode (mB 47) 26 = .ok (.getfield 21, 3) ∧ tF (mO 47) 21 = some (4, 1, 0, 0) := by decide +kernel
theorem k47_29 : decode (mB 47) 29 = .ok (.iconst 1, 1) := by decide +kernel
theorem k47_30 : decode (mB 47) 30 = .ok (.iadd, 1) := by decide +kernel
theorem k47_31 : decode (mB 47) 31 = .ok (.putfield 21, 3) ∧ tF (mO 47) 21 = some (4, 1, 0, 0) := by decide +kernel
theorem k47_34 : decode (mB 47) 34 = .ok (.iconst 1, 1) := by decide +kernel
theorem k47_35 : decode (mB 47) 35 = .ok (.ireturn, 1) ∧ mR 47 = (some .boolean) := by decide +kernel
-- 48: ChairPast$Line.numberAt:(I)I, locals 2
theorem l48 : mL 48 = 2 := by decide +kernel
theorem k48_0 : decode (mB 48) 0 = .ok (.iload_n 1, 1) := by decide +kernel
theorem k48_1 : decode (mB 48) 1 = .ok (.ifCond .lt 20, 3) := by decide +kernel
theorem k48_4 : decode (mB 48) 4 = .ok (.iload_n 1, 1) := by decide +kernel
theorem k48_5 : decode (mB 48) 5 = .ok (.aload_n 0, 1) := by decide +kernel
theorem k48_6 : decode (mB 48) 6 = .ok (.getfield 21, 3) ∧ tF (mO 48) 21 = some (4, 1, 0, 0) := by decide +kernel
theorem k48_9 : decode (mB 48) 9 = .ok (.if_icmp .ge 12, 3) := by decide +kernel
theorem k48_12 : decode (mB 48) 12 = .ok (.aload_n 0, 1) := by decide +kernel
theorem k48_13 : decode (mB 48) 13 = .ok (.getfield 15, 3) ∧ tF (mO 48) 15 = some (4, 0, 1, 1) := by decide +kernel
theorem k48_16 : decode (mB 48) 16 = .ok (.iload_n 1, 1) := by decide +kernel
theorem k48_17 : decode (mB 48) 17 = .ok (.iaload, 1) := by decide +kernel
theorem k48_18 : decode (mB 48) 18 = .ok (.goto 5, 3) := by decide +kernel
theorem k48_21 : decode (mB 48) 21 = .ok (.ldc 28, 2) ∧ tK (mO 48) 28 = some (-1000000) := by decide +kernel
theorem k48_23 : decode (mB 48) 23 = .ok (.ireturn, 1) ∧ mR 48 = (some .int) := by decide +kernel
-- 49: ChairPast$Line.holds:(II)Z, locals 3
theorem l49 : mL 49 = 3 := by decide +kernel
theorem k49_0 : decode (mB 49) 0 = .ok (.iload_n 1, 1) := by decide +kernel
theorem k49_1 : decode (mB 49) 1 = .ok (.ifCond .lt 29, 3) := by decide +kernel
theorem k49_4 : decode (mB 49) 4 = .ok (.iload_n 2, 1) := by decide +kernel
theorem k49_5 : decode (mB 49) 5 = .ok (.ifCond .lt 25, 3) := by decide +kernel
theorem k49_8 : decode (mB 49) 8 = .ok (.iload_n 1, 1) := by decide +kernel
theorem k49_9 : decode (mB 49) 9 = .ok (.aload_n 0, 1) := by decide +kernel
theorem k49_10 : decode (mB 49) 10 = .ok (.getfield 21, 3) ∧ tF (mO 49) 21 = some (4, 1, 0, 0) := by decide +kernel
theorem k49_13 : decode (mB 49) 13 = .ok (.if_icmp .gt 17, 3) := by decide +kernel
theorem k49_16 : decode (mB 49) 16 = .ok (.iload_n 2, 1) := by decide +kernel
theorem k49_17 : decode (mB 49) 17 = .ok (.aload_n 0, 1) := by decide +kernel
theorem k49_18 : decode (mB 49) 18 = .ok (.getfield 21, 3) ∧ tF (mO 49) 21 = some (4, 1, 0, 0) := by decide +kernel
theorem k49_21 : decode (mB 49) 21 = .ok (.iload_n 1, 1) := by decide +kernel
theorem k49_22 : decode (mB 49) 22 = .ok (.isub, 1) := by decide +kernel
theorem k49_23 : decode (mB 49) 23 = .ok (.if_icmp .gt 7, 3) := by decide +kernel
theorem k49_26 : decode (mB 49) 26 = .ok (.iconst 1, 1) := by decide +kernel
theorem k49_27 : decode (mB 49) 27 = .ok (.goto 4, 3) := by decide +kernel
theorem k49_30 : decode (mB 49) 30 = .ok (.iconst 0, 1) := by decide +kernel
theorem k49_31 : decode (mB 49) 31 = .ok (.ireturn, 1) ∧ mR 49 = (some .boolean) := by decide +kernel
-- 50: ChairPast$Line.rewind:()V, locals 1
theorem l50 : mL 50 = 1 := by decide +kernel
theorem k50_0 : decode (mB 50) 0 = .ok (.aload_n 0, 1) := by decide +kernel
theorem k50_1 : decode (mB 50) 1 = .ok (.iconst 0, 1) := by decide +kernel
theorem k50_2 : decode (mB 50) 2 = .ok (.putfield 25, 3) ∧ tF (mO 50) 25 = some (4, 2, 0, 0) := by decide +kernel
theorem k50_5 : decode (mB 50) 5 = .ok (.return_, 1) ∧ mR 50 = none := by decide +kernel
-- 51: ChairPast$Line.next:()I, locals 1
theorem l51 : mL 51 = 1 := by decide +kernel
theorem k51_0 : decode (mB 51) 0 = .ok (.aload_n 0, 1) := by decide +kernel
theorem k51_1 : decode (mB 51) 1 = .ok (.getfield 25, 3) ∧ tF (mO 51) 25 = some (4, 2, 0, 0) := by decide +kernel
theorem k51_4 : decode (mB 51) 4 = .ok (.aload_n 0, 1) := by decide +kernel
theorem k51_5 : decode (mB 51) 5 = .ok (.getfield 21, 3) ∧ tF (mO 51) 21 = some (4, 1, 0, 0) := by decide +kernel
theorem k51_8 : decode (mB 51) 8 = .ok (.if_icmp .lt 6, 3) := by decide +kernel
theorem k51_11 : decode (mB 51) 11 = .ok (.ldc 28, 2) ∧ tK (mO 51) 28 = some (-1000000) := by decide +kernel
theorem k51_13 : decode (mB 51) 13 = .ok (.ireturn, 1) ∧ mR 51 = (some .int) := by decide +kernel
theorem k51_14 : decode (mB 51) 14 = .ok (.aload_n 0, 1) := by decide +kernel
theorem k51_15 : decode (mB 51) 15 = .ok (.dup, 1) := by decide +kernel
theorem k51_16 : decode (mB 51) 16 = .ok (.getfield 25, 3) ∧ tF (mO 51) 25 = some (4, 2, 0, 0) := by decide +kernel
theorem k51_19 : decode (mB 51) 19 = .ok (.iconst 1, 1) := by decide +kernel
theorem k51_20 : decode (mB 51) 20 = .ok (.iadd, 1) := by decide +kernel
theorem k51_21 : decode (mB 51) 21 = .ok (.putfield 25, 3) ∧ tF (mO 51) 25 = some (4, 2, 0, 0) := by decide +kernel
theorem k51_24 : decode (mB 51) 24 = .ok (.aload_n 0, 1) := by decide +kernel
theorem k51_25 : decode (mB 51) 25 = .ok (.getfield 15, 3) ∧ tF (mO 51) 15 = some (4, 0, 1, 1) := by decide +kernel
theorem k51_28 : decode (mB 51) 28 = .ok (.aload_n 0, 1) := by decide +kernel
theorem k51_29 : decode (mB 51) 29 = .ok (.getfield 25, 3) ∧ tF (mO 51) 25 = some (4, 2, 0, 0) := by decide +kernel
theorem k51_32 : decode (mB 51) 32 = .ok (.iconst 1, 1) := by decide +kernel
theorem k51_33 : decode (mB 51) 33 = .ok (.isub, 1) := by decide +kernel
theorem k51_34 : decode (mB 51) 34 = .ok (.iaload, 1) := by decide +kernel
theorem k51_35 : decode (mB 51) 35 = .ok (.ireturn, 1) ∧ mR 51 = (some .int) := by decide +kernel
-- 53: ChairPast$Plain.number:()I, locals 1
theorem l53 : mL 53 = 1 := by decide +kernel
theorem k53_0 : decode (mB 53) 0 = .ok (.iconst 1, 1) := by decide +kernel
theorem k53_1 : decode (mB 53) 1 = .ok (.ireturn, 1) ∧ mR 53 = (some .int) := by decide +kernel
-- 54: ChairPast$Plain.bearingOn:(LChairPast$Chair;I)I, locals 3
theorem l54 : mL 54 = 3 := by decide +kernel
theorem k54_0 : decode (mB 54) 0 = .ok (.aload_n 1, 1) := by decide +kernel
theorem k54_1 : decode (mB 54) 1 = .ok (.getfield 9, 3) ∧ tF (mO 54) 9 = some (1, 1, 0, 0) := by decide +kernel
theorem k54_4 : decode (mB 54) 4 = .ok (.aload_n 1, 1) := by decide +kernel
theorem k54_5 : decode (mB 54) 5 = .ok (.getfield 15, 3) ∧ tF (mO 54) 15 = some (1, 2, 0, 0) := by decide +kernel
theorem k54_8 : decode (mB 54) 8 = .ok (.iload_n 2, 1) := by decide +kernel
theorem k54_9 : decode (mB 54) 9 = .ok (.invokestatic 18, 3) ∧ tM (mO 54) 18 = none ∧ tS (mO 54) 18 = some 58 := by decide +kernel
theorem k54_12 : decode (mB 54) 12 = .ok (.ireturn, 1) ∧ mR 54 = (some .int) := by decide +kernel
-- 55: ChairPast$Plain.wear:(LChairPast$Chair;)V, locals 2
theorem l55 : mL 55 = 2 := by decide +kernel
theorem k55_0 : decode (mB 55) 0 = .ok (.aload_n 1, 1) := by decide +kernel
theorem k55_1 : decode (mB 55) 1 = .ok (.dup, 1) := by decide +kernel
theorem k55_2 : decode (mB 55) 2 = .ok (.getfield 15, 3) ∧ tF (mO 55) 15 = some (1, 2, 0, 0) := by decide +kernel
theorem k55_5 : decode (mB 55) 5 = .ok (.aload_n 1, 1) := by decide +kernel
theorem k55_6 : decode (mB 55) 6 = .ok (.getfield 15, 3) ∧ tF (mO 55) 15 = some (1, 2, 0, 0) := by decide +kernel
theorem k55_9 : decode (mB 55) 9 = .ok (.iconst 3, 1) := by decide +kernel
theorem k55_10 : decode (mB 55) 10 = .ok (.iadd, 1) := by decide +kernel
theorem k55_11 : decode (mB 55) 11 = .ok (.iconst 4, 1) := by decide +kernel
theorem k55_12 : decode (mB 55) 12 = .ok (.idiv, 1) := by decide +kernel
theorem k55_13 : decode (mB 55) 13 = .ok (.isub, 1) := by decide +kernel
theorem k55_14 : decode (mB 55) 14 = .ok (.putfield 15, 3) ∧ tF (mO 55) 15 = some (1, 2, 0, 0) := by decide +kernel
theorem k55_17 : decode (mB 55) 17 = .ok (.return_, 1) ∧ mR 55 = none := by decide +kernel
-- 56: ChairPast$Plain.sizeOf:(LChairPast$Chair;LChairPast$Line;)I, locals 4
theorem l56 : mL 56 = 4 := by decide +kernel
theorem k56_0 : decode (mB 56) 0 = .ok (.aload_n 2, 1) := by decide +kernel
theorem k56_1 : decode (mB 56) 1 = .ok (.bipush 11, 2) := by decide +kernel
theorem k56_3 : decode (mB 56) 3 = .ok (.invokevirtual 24, 3) ∧ tVn (mO 56) 24 = some 1 ∧ tV (mO 56) 24 4 = some 47 := by decide +kernel
theorem k56_6 : decode (mB 56) 6 = .ok (.pop, 1) := by decide +kernel
theorem k56_7 : decode (mB 56) 7 = .ok (.aload_n 0, 1) := by decide +kernel
theorem k56_8 : decode (mB 56) 8 = .ok (.aload_n 1, 1) := by decide +kernel
theorem k56_9 : decode (mB 56) 9 = .ok (.aload_n 2, 1) := by decide +kernel
theorem k56_10 : decode (mB 56) 10 = .ok (.invokespecial 30, 3) ∧ tB (mO 56) 30 = false ∧ tI (mO 56) 30 = none ∧ tJ (mO 56) 30 = none ∧ tP (mO 56) 30 = some 43 := by decide +kernel
theorem k56_13 : decode (mB 56) 13 = .ok (.istore_n 3, 1) := by decide +kernel
theorem k56_14 : decode (mB 56) 14 = .ok (.iload_n 3, 1) := by decide +kernel
theorem k56_15 : decode (mB 56) 15 = .ok (.aload_n 0, 1) := by decide +kernel
theorem k56_16 : decode (mB 56) 16 = .ok (.aload_n 1, 1) := by decide +kernel
theorem k56_17 : decode (mB 56) 17 = .ok (.aload_n 2, 1) := by decide +kernel
theorem k56_18_5 : decode (mB 56) 18 = .ok (.invokevirtual 34, 3) ∧ tVn (mO 56) 34 = some 2 ∧ tV (mO 56) 34 5 = some 57 := by decide +kernel
theorem k56_18_7 : decode (mB 56) 18 = .ok (.invokevirtual 34, 3) ∧ tVn (mO 56) 34 = some 2 ∧ tV (mO 56) 34 7 = some 78 := by decide +kernel
theorem k56_18_0 : decode (mB 56) 18 = .ok (.invokevirtual 34, 3) ∧ tVn (mO 56) 34 = some 2 ∧ tV (mO 56) 34 0 = some 4 := by decide +kernel
theorem k56_21 : decode (mB 56) 21 = .ok (.iadd, 1) := by decide +kernel
theorem k56_22 : decode (mB 56) 22 = .ok (.ireturn, 1) ∧ mR 56 = (some .int) := by decide +kernel
-- 57: ChairPast$Plain.markOf:(LChairPast$Chair;LChairPast$Line;)I, locals 3
theorem l57 : mL 57 = 3 := by decide +kernel
theorem k57_0 : decode (mB 57) 0 = .ok (.aload_n 2, 1) := by decide +kernel
theorem k57_1 : decode (mB 57) 1 = .ok (.bipush 21, 2) := by decide +kernel
theorem k57_3 : decode (mB 57) 3 = .ok (.invokevirtual 24, 3) ∧ tVn (mO 57) 24 = some 1 ∧ tV (mO 57) 24 4 = some 47 := by decide +kernel
theorem k57_6 : decode (mB 57) 6 = .ok (.pop, 1) := by decide +kernel
theorem k57_7 : decode (mB 57) 7 = .ok (.aload_n 0, 1) := by decide +kernel
theorem k57_8 : decode (mB 57) 8 = .ok (.aload_n 1, 1) := by decide +kernel
theorem k57_9 : decode (mB 57) 9 = .ok (.aload_n 2, 1) := by decide +kernel
theorem k57_10 : decode (mB 57) 10 = .ok (.invokespecial 37, 3) ∧ tB (mO 57) 37 = false ∧ tI (mO 57) 37 = none ∧ tJ (mO 57) 37 = none ∧ tP (mO 57) 37 = some 44 := by decide +kernel
theorem k57_13 : decode (mB 57) 13 = .ok (.aload_n 1, 1) := by decide +kernel
theorem k57_14 : decode (mB 57) 14 = .ok (.getfield 15, 3) ∧ tF (mO 57) 15 = some (1, 2, 0, 0) := by decide +kernel
theorem k57_17 : decode (mB 57) 17 = .ok (.iadd, 1) := by decide +kernel
theorem k57_18 : decode (mB 57) 18 = .ok (.ireturn, 1) ∧ mR 57 = (some .int) := by decide +kernel
-- 58: ChairPast$Plain.blend:(III)I, locals 3
theorem l58 : mL 58 = 3 := by decide +kernel
theorem k58_0 : decode (mB 58) 0 = .ok (.iload_n 0, 1) := by decide +kernel
theorem k58_1 : decode (mB 58) 1 = .ok (.iload_n 1, 1) := by decide +kernel
theorem k58_2 : decode (mB 58) 2 = .ok (.imul, 1) := by decide +kernel
theorem k58_3 : decode (mB 58) 3 = .ok (.iload_n 2, 1) := by decide +kernel
theorem k58_4 : decode (mB 58) 4 = .ok (.bipush 16, 2) := by decide +kernel
theorem k58_6 : decode (mB 58) 6 = .ok (.iload_n 1, 1) := by decide +kernel
theorem k58_7 : decode (mB 58) 7 = .ok (.isub, 1) := by decide +kernel
theorem k58_8 : decode (mB 58) 8 = .ok (.imul, 1) := by decide +kernel
theorem k58_9 : decode (mB 58) 9 = .ok (.iadd, 1) := by decide +kernel
theorem k58_10 : decode (mB 58) 10 = .ok (.bipush 16, 2) := by decide +kernel
theorem k58_12 : decode (mB 58) 12 = .ok (.idiv, 1) := by decide +kernel
theorem k58_13 : decode (mB 58) 13 = .ok (.ireturn, 1) ∧ mR 58 = (some .int) := by decide +kernel
-- 60: ChairPast$Reader.readTape:()Z, locals 1
theorem l60 : mL 60 = 1 := by decide +kernel
theorem k60_0 : decode (mB 60) 0 = .ok (.aload_n 0, 1) := by decide +kernel
theorem k60_1 : decode (mB 60) 1 = .ok (.iconst 0, 1) := by decide +kernel
theorem k60_2 : decode (mB 60) 2 = .ok (.putfield 32, 3) ∧ tF (mO 60) 32 = some (6, 3, 0, 0) := by decide +kernel
theorem k60_5 : decode (mB 60) 5 = .ok (.aload_n 0, 1) := by decide +kernel
theorem k60_6 : decode (mB 60) 6 = .ok (.iconst 0, 1) := by decide +kernel
theorem k60_7 : decode (mB 60) 7 = .ok (.putfield 36, 3) ∧ tF (mO 60) 36 = some (6, 4, 0, 0) := by decide +kernel
theorem k60_10 : decode (mB 60) 10 = .ok (.aload_n 0, 1) := by decide +kernel
theorem k60_11 : decode (mB 60) 11 = .ok (.getfield 28, 3) ∧ tF (mO 60) 28 = some (6, 2, 1, 1) := by decide +kernel
theorem k60_14 : decode (mB 60) 14 = .ok (.invokevirtual 39, 3) ∧ tVn (mO 60) 39 = some 0 ∧ tV (mO 60) 39 8 = some 80 := by decide +kernel
theorem k60_17 : decode (mB 60) 17 = .ok (.aload_n 0, 1) := by decide +kernel
theorem k60_18 : decode (mB 60) 18 = .ok (.invokevirtual 42, 3) ∧ tVn (mO 60) 42 = some 0 ∧ tV (mO 60) 42 6 = some 62 := by decide +kernel
theorem k60_21 : decode (mB 60) 21 = .ok (.aload_n 0, 1) := by decide +kernel
theorem k60_22 : decode (mB 60) 22 = .ok (.invokevirtual 45, 3) ∧ tVn (mO 60) 45 = some 0 ∧ tV (mO 60) 45 6 = some 63 := by decide +kernel
theorem k60_25 : decode (mB 60) 25 = .ok (.aload_n 0, 1) := by decide +kernel
theorem k60_26 : decode (mB 60) 26 = .ok (.invokevirtual 48, 3) ∧ tVn (mO 60) 48 = some 0 ∧ tV (mO 60) 48 6 = some 65 := by decide +kernel
theorem k60_29 : decode (mB 60) 29 = .ok (.aload_n 0, 1) := by decide +kernel
theorem k60_30 : decode (mB 60) 30 = .ok (.getfield 32, 3) ∧ tF (mO 60) 32 = some (6, 3, 0, 0) := by decide +kernel
theorem k60_33 : decode (mB 60) 33 = .ok (.aload_n 0, 1) := by decide +kernel
theorem k60_34 : decode (mB 60) 34 = .ok (.getfield 14, 3) ∧ tF (mO 60) 14 = some (6, 0, 1, 1) := by decide +kernel
theorem k60_37 : decode (mB 60) 37 = .ok (.getfield 51, 3) ∧ tF (mO 60) 51 = some (4, 1, 0, 0) := by decide +kernel
theorem k60_40 : decode (mB 60) 40 = .ok (.if_icmp .ge 8, 3) := by decide +kernel
theorem k60_43 : decode (mB 60) 43 = .ok (.aload_n 0, 1) := by decide +kernel
theorem k60_44 : decode (mB 60) 44 = .ok (.iconst 1, 1) := by decide +kernel
theorem k60_45 : decode (mB 60) 45 = .ok (.invokevirtual 54, 3) ∧ tVn (mO 60) 54 = some 1 ∧ tV (mO 60) 54 6 = some 73 := by decide +kernel
theorem k60_48 : decode (mB 60) 48 = .ok (.aload_n 0, 1) := by decide +kernel
theorem k60_49 : decode (mB 60) 49 = .ok (.getfield 14, 3) ∧ tF (mO 60) 14 = some (6, 0, 1, 1) := by decide +kernel
theorem k60_52 : decode (mB 60) 52 = .ok (.invokevirtual 57, 3) ∧ tVn (mO 60) 57 = some 0 ∧ tV (mO 60) 57 4 = some 46 := by decide +kernel
theorem k60_55 : decode (mB 60) 55 = .ok (.aload_n 0, 1) := by decide +kernel
theorem k60_56 : decode (mB 60) 56 = .ok (.getfield 36, 3) ∧ tF (mO 60) 36 = some (6, 4, 0, 0) := by decide +kernel
theorem k60_59 : decode (mB 60) 59 = .ok (.ifCond .ne 7, 3) := by decide +kernel
theorem k60_62 : decode (mB 60) 62 = .ok (.iconst 1, 1) := by decide +kernel
theorem k60_63 : decode (mB 60) 63 = .ok (.goto 4, 3) := by decide +kernel
theorem k60_66 : decode (mB 60) 66 = .ok (.iconst 0, 1) := by decide +kernel
theorem k60_67 : decode (mB 60) 67 = .ok (.ireturn, 1) ∧ mR 60 = (some .boolean) := by decide +kernel
-- 61: ChairPast$Reader.draftPage:()LChairPast$Line;, locals 1
theorem l61 : mL 61 = 1 := by decide +kernel
theorem k61_0 : decode (mB 61) 0 = .ok (.aload_n 0, 1) := by decide +kernel
theorem k61_1 : decode (mB 61) 1 = .ok (.getfield 28, 3) ∧ tF (mO 61) 28 = some (6, 2, 1, 1) := by decide +kernel
theorem k61_4 : decode (mB 61) 4 = .ok (.aload_n 0, 1) := by decide +kernel
theorem k61_5 : decode (mB 61) 5 = .ok (.getfield 20, 3) ∧ tF (mO 61) 20 = some (6, 1, 1, 1) := by decide +kernel
theorem k61_8 : decode (mB 61) 8 = .ok (.invokevirtual 60, 3) ∧ tVn (mO 61) 60 = some 1 ∧ tV (mO 61) 60 8 = some 101 := by decide +kernel
theorem k61_11 : decode (mB 61) 11 = .ok (.aload_n 0, 1) := by decide +kernel
theorem k61_12 : decode (mB 61) 12 = .ok (.getfield 20, 3) ∧ tF (mO 61) 20 = some (6, 1, 1, 1) := by decide +kernel
theorem k61_15 : decode (mB 61) 15 = .ok (.areturn, 1) ∧ mR 61 = (some (.object "ChairPast$Line")) := by decide +kernel
-- 62: ChairPast$Reader.readLaw:()V, locals 1
theorem l62 : mL 62 = 1 := by decide +kernel
theorem k62_0 : decode (mB 62) 0 = .ok (.aload_n 0, 1) := by decide +kernel
theorem k62_1 : decode (mB 62) 1 = .ok (.bipush 97, 2) := by decide +kernel
theorem k62_3 : decode (mB 62) 3 = .ok (.invokevirtual 64, 3) ∧ tVn (mO 62) 64 = some 1 ∧ tV (mO 62) 64 6 = some 67 := by decide +kernel
theorem k62_6 : decode (mB 62) 6 = .ok (.aload_n 0, 1) := by decide +kernel
theorem k62_7 : decode (mB 62) 7 = .ok (.getfield 28, 3) ∧ tF (mO 62) 28 = some (6, 2, 1, 1) := by decide +kernel
theorem k62_10 : decode (mB 62) 10 = .ok (.aload_n 0, 1) := by decide +kernel
theorem k62_11 : decode (mB 62) 11 = .ok (.iconst 0, 1) := by decide +kernel
theorem k62_12 : decode (mB 62) 12 = .ok (.bipush 9, 2) := by decide +kernel
theorem k62_14 : decode (mB 62) 14 = .ok (.invokevirtual 67, 3) ∧ tVn (mO 62) 67 = some 2 ∧ tV (mO 62) 67 6 = some 68 := by decide +kernel
theorem k62_17 : decode (mB 62) 17 = .ok (.putfield 71, 3) ∧ tF (mO 62) 71 = some (8, 8, 0, 0) := by decide +kernel
theorem k62_20 : decode (mB 62) 20 = .ok (.aload_n 0, 1) := by decide +kernel
theorem k62_21 : decode (mB 62) 21 = .ok (.bipush 59, 2) := by decide +kernel
theorem k62_23 : decode (mB 62) 23 = .ok (.invokevirtual 64, 3) ∧ tVn (mO 62) 64 = some 1 ∧ tV (mO 62) 64 6 = some 67 := by decide +kernel
theorem k62_26 : decode (mB 62) 26 = .ok (.return_, 1) ∧ mR 62 = none := by decide +kernel
-- 63: ChairPast$Reader.readChairs:()V, locals 2
theorem l63 : mL 63 = 2 := by decide +kernel
theorem k63_0 : decode (mB 63) 0 = .ok (.iconst 0, 1) := by decide +kernel
theorem k63_1 : decode (mB 63) 1 = .ok (.istore_n 1, 1) := by decide +kernel
theorem k63_2 : decode (mB 63) 2 = .ok (.iload_n 1, 1) := by decide +kernel
theorem k63_3 : decode (mB 63) 3 = .ok (.iconst 5, 1) := by decide +kernel
theorem k63_4 : decode (mB 63) 4 = .ok (.if_icmp .gt 30, 3) := by decide +kernel
theorem k63_7 : decode (mB 63) 7 = .ok (.aload_n 0, 1) := by decide +kernel
theorem k63_8 : decode (mB 63) 8 = .ok (.getfield 36, 3) ∧ tF (mO 63) 36 = some (6, 4, 0, 0) := by decide +kernel
theorem k63_11 : decode (mB 63) 11 = .ok (.ifCond .ne 23, 3) := by decide +kernel
theorem k63_14 : decode (mB 63) 14 = .ok (.aload_n 0, 1) := by decide +kernel
theorem k63_15 : decode (mB 63) 15 = .ok (.invokevirtual 74, 3) ∧ tVn (mO 63) 74 = some 0 ∧ tV (mO 63) 74 6 = some 69 := by decide +kernel
theorem k63_18 : decode (mB 63) 18 = .ok (.invokestatic 78, 3) ∧ tM (mO 63) 78 = none ∧ tS (mO 63) 78 = some 72 := by decide +kernel
theorem k63_21 : decode (mB 63) 21 = .ok (.ifCond .eq 13, 3) := by decide +kernel
theorem k63_24 : decode (mB 63) 24 = .ok (.aload_n 0, 1) := by decide +kernel
theorem k63_25 : decode (mB 63) 25 = .ok (.invokevirtual 82, 3) ∧ tVn (mO 63) 82 = some 0 ∧ tV (mO 63) 82 6 = some 64 := by decide +kernel
theorem k63_28 : decode (mB 63) 28 = .ok (.iinc 1 1, 3) := by decide +kernel
theorem k63_31 : decode (mB 63) 31 = .ok (.goto (-29), 3) := by decide +kernel
theorem k63_34 : decode (mB 63) 34 = .ok (.aload_n 0, 1) := by decide +kernel
theorem k63_35 : decode (mB 63) 35 = .ok (.getfield 28, 3) ∧ tF (mO 63) 28 = some (6, 2, 1, 1) := by decide +kernel
theorem k63_38 : decode (mB 63) 38 = .ok (.getfield 85, 3) ∧ tF (mO 63) 85 = some (8, 6, 0, 0) := by decide +kernel
theorem k63_41 : decode (mB 63) 41 = .ok (.ifCond .ne 8, 3) := by decide +kernel
theorem k63_44 : decode (mB 63) 44 = .ok (.aload_n 0, 1) := by decide +kernel
theorem k63_45 : decode (mB 63) 45 = .ok (.iconst 1, 1) := by decide +kernel
theorem k63_46 : decode (mB 63) 46 = .ok (.invokevirtual 54, 3) ∧ tVn (mO 63) 54 = some 1 ∧ tV (mO 63) 54 6 = some 73 := by decide +kernel
theorem k63_49 : decode (mB 63) 49 = .ok (.return_, 1) ∧ mR 63 = none := by decide +kernel
-- 64: ChairPast$Reader.readChair:()V, locals 5
theorem l64 : mL 64 = 5 := by decide +kernel
theorem k64_0 : decode (mB 64) 0 = .ok (.aload_n 0, 1) := by decide +kernel
theorem k64_1 : decode (mB 64) 1 = .ok (.getfield 28, 3) ∧ tF (mO 64) 28 = some (6, 2, 1, 1) := by decide +kernel
theorem k64_4 : decode (mB 64) 4 = .ok (.getfield 85, 3) ∧ tF (mO 64) 85 = some (8, 6, 0, 0) := by decide +kernel
theorem k64_7 : decode (mB 64) 7 = .ok (.iconst 5, 1) := by decide +kernel
theorem k64_8 : decode (mB 64) 8 = .ok (.if_icmp .lt 9, 3) := by decide +kernel
theorem k64_11 : decode (mB 64) 11 = .ok (.aload_n 0, 1) := by decide +kernel
theorem k64_12 : decode (mB 64) 12 = .ok (.iconst 3, 1) := by decide +kernel
theorem k64_13 : decode (mB 64) 13 = .ok (.invokevirtual 54, 3) ∧ tVn (mO 64) 54 = some 1 ∧ tV (mO 64) 54 6 = some 73 := by decide +kernel
theorem k64_16 : decode (mB 64) 16 = .ok (.return_, 1) ∧ mR 64 = none := by decide +kernel
theorem k64_17 : decode (mB 64) 17 = .ok (.aload_n 0, 1) := by decide +kernel
theorem k64_18 : decode (mB 64) 18 = .ok (.invokevirtual 74, 3) ∧ tVn (mO 64) 74 = some 0 ∧ tV (mO 64) 74 6 = some 69 := by decide +kernel
theorem k64_21 : decode (mB 64) 21 = .ok (.invokestatic 78, 3) ∧ tM (mO 64) 78 = none ∧ tS (mO 64) 78 = some 72 := by decide +kernel
theorem k64_24 : decode (mB 64) 24 = .ok (.istore_n 1, 1) := by decide +kernel
theorem k64_25 : decode (mB 64) 25 = .ok (.aload_n 0, 1) := by decide +kernel
theorem k64_26 : decode (mB 64) 26 = .ok (.dup, 1) := by decide +kernel
theorem k64_27 : decode (mB 64) 27 = .ok (.getfield 32, 3) ∧ tF (mO 64) 32 = some (6, 3, 0, 0) := by decide +kernel
theorem k64_30 : decode (mB 64) 30 = .ok (.iconst 1, 1) := by decide +kernel
theorem k64_31 : decode (mB 64) 31 = .ok (.iadd, 1) := by decide +kernel
theorem k64_32 : decode (mB 64) 32 = .ok (.putfield 32, 3) ∧ tF (mO 64) 32 = some (6, 3, 0, 0) := by decide +kernel
theorem k64_35 : decode (mB 64) 35 = .ok (.aload_n 0, 1) := by decide +kernel
theorem k64_36 : decode (mB 64) 36 = .ok (.iconst 0, 1) := by decide +kernel
theorem k64_37 : decode (mB 64) 37 = .ok (.bipush 9, 2) := by decide +kernel
theorem k64_39 : decode (mB 64) 39 = .ok (.invokevirtual 67, 3) ∧ tVn (mO 64) 67 = some 2 ∧ tV (mO 64) 67 6 = some 68 := by decide +kernel
theorem k64_42 : decode (mB 64) 42 = .ok (.istore_n 2, 1) := by decide +kernel
theorem k64_43 : decode (mB 64) 43 = .ok (.aload_n 0, 1) := by decide +kernel
theorem k64_44 : decode (mB 64) 44 = .ok (.bipush 44, 2) := by decide +kernel
theorem k64_46 : decode (mB 64) 46 = .ok (.invokevirtual 64, 3) ∧ tVn (mO 64) 64 = some 1 ∧ tV (mO 64) 64 6 = some 67 := by decide +kernel
theorem k64_49 : decode (mB 64) 49 = .ok (.aload_n 0, 1) := by decide +kernel
theorem k64_50 : decode (mB 64) 50 = .ok (.iconst 0, 1) := by decide +kernel
theorem k64_51 : decode (mB 64) 51 = .ok (.bipush 16, 2) := by decide +kernel
theorem k64_53 : decode (mB 64) 53 = .ok (.invokevirtual 67, 3) ∧ tVn (mO 64) 67 = some 2 ∧ tV (mO 64) 67 6 = some 68 := by decide +kernel
theorem k64_56 : decode (mB 64) 56 = .ok (.istore_n 3, 1) := by decide +kernel
theorem k64_57 : decode (mB 64) 57 = .ok (.aload_n 0, 1) := by decide +kernel
theorem k64_58 : decode (mB 64) 58 = .ok (.bipush 44, 2) := by decide +kernel
theorem k64_60 : decode (mB 64) 60 = .ok (.invokevirtual 64, 3) ∧ tVn (mO 64) 64 = some 1 ∧ tV (mO 64) 64 6 = some 67 := by decide +kernel
theorem k64_63 : decode (mB 64) 63 = .ok (.aload_n 0, 1) := by decide +kernel
theorem k64_64 : decode (mB 64) 64 = .ok (.iconst 0, 1) := by decide +kernel
theorem k64_65 : decode (mB 64) 65 = .ok (.iconst 3, 1) := by decide +kernel
theorem k64_66 : decode (mB 64) 66 = .ok (.invokevirtual 67, 3) ∧ tVn (mO 64) 67 = some 2 ∧ tV (mO 64) 67 6 = some 68 := by decide +kernel
theorem k64_69 : decode (mB 64) 69 = .ok (.istore 4, 2) := by decide +kernel
theorem k64_71 : decode (mB 64) 71 = .ok (.aload_n 0, 1) := by decide +kernel
theorem k64_72 : decode (mB 64) 72 = .ok (.bipush 59, 2) := by decide +kernel
theorem k64_74 : decode (mB 64) 74 = .ok (.invokevirtual 64, 3) ∧ tVn (mO 64) 64 = some 1 ∧ tV (mO 64) 64 6 = some 67 := by decide +kernel
theorem k64_77 : decode (mB 64) 77 = .ok (.aload_n 0, 1) := by decide +kernel
theorem k64_78 : decode (mB 64) 78 = .ok (.getfield 36, 3) ∧ tF (mO 64) 36 = some (6, 4, 0, 0) := by decide +kernel
theorem k64_81 : decode (mB 64) 81 = .ok (.ifCond .ne 15, 3) := by decide +kernel
theorem k64_84 : decode (mB 64) 84 = .ok (.aload_n 0, 1) := by decide +kernel
theorem k64_85 : decode (mB 64) 85 = .ok (.getfield 28, 3) ∧ tF (mO 64) 28 = some (6, 2, 1, 1) := by decide +kernel
theorem k64_88 : decode (mB 64) 88 = .ok (.iload_n 1, 1) := by decide +kernel
theorem k64_89 : decode (mB 64) 89 = .ok (.iload_n 2, 1) := by decide +kernel
theorem k64_90 : decode (mB 64) 90 = .ok (.iload_n 3, 1) := by decide +kernel
theorem k64_91 : decode (mB 64) 91 = .ok (.iload 4, 2) := by decide +kernel
theorem k64_93 : decode (mB 64) 93 = .ok (.invokevirtual 88, 3) ∧ tVn (mO 64) 88 = some 4 ∧ tV (mO 64) 88 8 = some 81 := by decide +kernel
theorem k64_96 : decode (mB 64) 96 = .ok (.return_, 1) ∧ mR 64 = none := by decide +kernel
-- 65: ChairPast$Reader.readGuests:()V, locals 2
theorem l65 : mL 65 = 2 := by decide +kernel
theorem k65_0 : decode (mB 65) 0 = .ok (.iconst 0, 1) := by decide +kernel
theorem k65_1 : decode (mB 65) 1 = .ok (.istore_n 1, 1) := by decide +kernel
theorem k65_2 : decode (mB 65) 2 = .ok (.iload_n 1, 1) := by decide +kernel
theorem k65_3 : decode (mB 65) 3 = .ok (.iconst 5, 1) := by decide +kernel
theorem k65_4 : decode (mB 65) 4 = .ok (.if_icmp .gt 29, 3) := by decide +kernel
theorem k65_7 : decode (mB 65) 7 = .ok (.aload_n 0, 1) := by decide +kernel
theorem k65_8 : decode (mB 65) 8 = .ok (.getfield 36, 3) ∧ tF (mO 65) 36 = some (6, 4, 0, 0) := by decide +kernel
theorem k65_11 : decode (mB 65) 11 = .ok (.ifCond .ne 22, 3) := by decide +kernel
theorem k65_14 : decode (mB 65) 14 = .ok (.aload_n 0, 1) := by decide +kernel
theorem k65_15 : decode (mB 65) 15 = .ok (.invokevirtual 74, 3) ∧ tVn (mO 65) 74 = some 0 ∧ tV (mO 65) 74 6 = some 69 := by decide +kernel
theorem k65_18 : decode (mB 65) 18 = .ok (.bipush 122, 2) := by decide +kernel
theorem k65_20 : decode (mB 65) 20 = .ok (.if_icmp .ne 13, 3) := by decide +kernel
theorem k65_23 : decode (mB 65) 23 = .ok (.aload_n 0, 1) := by decide +kernel
theorem k65_24 : decode (mB 65) 24 = .ok (.invokevirtual 92, 3) ∧ tVn (mO 65) 92 = some 0 ∧ tV (mO 65) 92 6 = some 66 := by decide +kernel
theorem k65_27 : decode (mB 65) 27 = .ok (.iinc 1 1, 3) := by decide +kernel
theorem k65_30 : decode (mB 65) 30 = .ok (.goto (-28), 3) := by decide +kernel
theorem k65_33 : decode (mB 65) 33 = .ok (.return_, 1) ∧ mR 65 = none := by decide +kernel
-- 66: ChairPast$Reader.readGuest:()V, locals 3
theorem l66 : mL 66 = 3 := by decide +kernel
theorem k66_0 : decode (mB 66) 0 = .ok (.aload_n 0, 1) := by decide +kernel
theorem k66_1 : decode (mB 66) 1 = .ok (.getfield 28, 3) ∧ tF (mO 66) 28 = some (6, 2, 1, 1) := by decide +kernel
theorem k66_4 : decode (mB 66) 4 = .ok (.getfield 95, 3) ∧ tF (mO 66) 95 = some (8, 7, 0, 0) := by decide +kernel
theorem k66_7 : decode (mB 66) 7 = .ok (.iconst 5, 1) := by decide +kernel
theorem k66_8 : decode (mB 66) 8 = .ok (.if_icmp .lt 9, 3) := by decide +kernel
theorem k66_11 : decode (mB 66) 11 = .ok (.aload_n 0, 1) := by decide +kernel
theorem k66_12 : decode (mB 66) 12 = .ok (.iconst 3, 1) := by decide +kernel
theorem k66_13 : decode (mB 66) 13 = .ok (.invokevirtual 54, 3) ∧ tVn (mO 66) 54 = some 1 ∧ tV (mO 66) 54 6 = some 73 := by decide +kernel
theorem k66_16 : decode (mB 66) 16 = .ok (.return_, 1) ∧ mR 66 = none := by decide +kernel
theorem k66_17 : decode (mB 66) 17 = .ok (.aload_n 0, 1) := by decide +kernel
theorem k66_18 : decode (mB 66) 18 = .ok (.dup, 1) := by decide +kernel
theorem k66_19 : decode (mB 66) 19 = .ok (.getfield 32, 3) ∧ tF (mO 66) 32 = some (6, 3, 0, 0) := by decide +kernel
theorem k66_22 : decode (mB 66) 22 = .ok (.iconst 1, 1) := by decide +kernel
theorem k66_23 : decode (mB 66) 23 = .ok (.iadd, 1) := by decide +kernel
theorem k66_24 : decode (mB 66) 24 = .ok (.putfield 32, 3) ∧ tF (mO 66) 32 = some (6, 3, 0, 0) := by decide +kernel
theorem k66_27 : decode (mB 66) 27 = .ok (.aload_n 0, 1) := by decide +kernel
theorem k66_28 : decode (mB 66) 28 = .ok (.iconst 0, 1) := by decide +kernel
theorem k66_29 : decode (mB 66) 29 = .ok (.bipush 9, 2) := by decide +kernel
theorem k66_31 : decode (mB 66) 31 = .ok (.invokevirtual 67, 3) ∧ tVn (mO 66) 67 = some 2 ∧ tV (mO 66) 67 6 = some 68 := by decide +kernel
theorem k66_34 : decode (mB 66) 34 = .ok (.istore_n 1, 1) := by decide +kernel
theorem k66_35 : decode (mB 66) 35 = .ok (.aload_n 0, 1) := by decide +kernel
theorem k66_36 : decode (mB 66) 36 = .ok (.bipush 44, 2) := by decide +kernel
theorem k66_38 : decode (mB 66) 38 = .ok (.invokevirtual 64, 3) ∧ tVn (mO 66) 64 = some 1 ∧ tV (mO 66) 64 6 = some 67 := by decide +kernel
theorem k66_41 : decode (mB 66) 41 = .ok (.aload_n 0, 1) := by decide +kernel
theorem k66_42 : decode (mB 66) 42 = .ok (.iconst 1, 1) := by decide +kernel
theorem k66_43 : decode (mB 66) 43 = .ok (.bipush 9, 2) := by decide +kernel
theorem k66_45 : decode (mB 66) 45 = .ok (.invokevirtual 67, 3) ∧ tVn (mO 66) 67 = some 2 ∧ tV (mO 66) 67 6 = some 68 := by decide +kernel
theorem k66_48 : decode (mB 66) 48 = .ok (.istore_n 2, 1) := by decide +kernel
theorem k66_49 : decode (mB 66) 49 = .ok (.aload_n 0, 1) := by decide +kernel
theorem k66_50 : decode (mB 66) 50 = .ok (.bipush 59, 2) := by decide +kernel
theorem k66_52 : decode (mB 66) 52 = .ok (.invokevirtual 64, 3) ∧ tVn (mO 66) 64 = some 1 ∧ tV (mO 66) 64 6 = some 67 := by decide +kernel
theorem k66_55 : decode (mB 66) 55 = .ok (.aload_n 0, 1) := by decide +kernel
theorem k66_56 : decode (mB 66) 56 = .ok (.getfield 36, 3) ∧ tF (mO 66) 36 = some (6, 4, 0, 0) := by decide +kernel
theorem k66_59 : decode (mB 66) 59 = .ok (.ifCond .ne 12, 3) := by decide +kernel
theorem k66_62 : decode (mB 66) 62 = .ok (.aload_n 0, 1) := by decide +kernel
theorem k66_63 : decode (mB 66) 63 = .ok (.getfield 28, 3) ∧ tF (mO 66) 28 = some (6, 2, 1, 1) := by decide +kernel
theorem k66_66 : decode (mB 66) 66 = .ok (.iload_n 1, 1) := by decide +kernel
theorem k66_67 : decode (mB 66) 67 = .ok (.iload_n 2, 1) := by decide +kernel
theorem k66_68 : decode (mB 66) 68 = .ok (.invokevirtual 98, 3) ∧ tVn (mO 66) 98 = some 2 ∧ tV (mO 66) 98 8 = some 82 := by decide +kernel
theorem k66_71 : decode (mB 66) 71 = .ok (.return_, 1) ∧ mR 66 = none := by decide +kernel
-- 67: ChairPast$Reader.readSign:(I)V, locals 2
theorem l67 : mL 67 = 2 := by decide +kernel
theorem k67_0 : decode (mB 67) 0 = .ok (.aload_n 0, 1) := by decide +kernel
theorem k67_1 : decode (mB 67) 1 = .ok (.getfield 36, 3) ∧ tF (mO 67) 36 = some (6, 4, 0, 0) := by decide +kernel
theorem k67_4 : decode (mB 67) 4 = .ok (.ifCond .eq 4, 3) := by decide +kernel
theorem k67_7 : decode (mB 67) 7 = .ok (.return_, 1) ∧ mR 67 = none := by decide +kernel
theorem k67_8 : decode (mB 67) 8 = .ok (.aload_n 0, 1) := by decide +kernel
theorem k67_9 : decode (mB 67) 9 = .ok (.invokevirtual 74, 3) ∧ tVn (mO 67) 74 = some 0 ∧ tV (mO 67) 74 6 = some 69 := by decide +kernel
theorem k67_12 : decode (mB 67) 12 = .ok (.iload_n 1, 1) := by decide +kernel
theorem k67_13 : decode (mB 67) 13 = .ok (.if_icmp .ne 16, 3) := by decide +kernel
theorem k67_16 : decode (mB 67) 16 = .ok (.aload_n 0, 1) := by decide +kernel
theorem k67_17 : decode (mB 67) 17 = .ok (.dup, 1) := by decide +kernel
theorem k67_18 : decode (mB 67) 18 = .ok (.getfield 32, 3) ∧ tF (mO 67) 32 = some (6, 3, 0, 0) := by decide +kernel
theorem k67_21 : decode (mB 67) 21 = .ok (.iconst 1, 1) := by decide +kernel
theorem k67_22 : decode (mB 67) 22 = .ok (.iadd, 1) := by decide +kernel
theorem k67_23 : decode (mB 67) 23 = .ok (.putfield 32, 3) ∧ tF (mO 67) 32 = some (6, 3, 0, 0) := by decide +kernel
theorem k67_26 : decode (mB 67) 26 = .ok (.goto 8, 3) := by decide +kernel
theorem k67_29 : decode (mB 67) 29 = .ok (.aload_n 0, 1) := by decide +kernel
theorem k67_30 : decode (mB 67) 30 = .ok (.iconst 1, 1) := by decide +kernel
theorem k67_31 : decode (mB 67) 31 = .ok (.invokevirtual 54, 3) ∧ tVn (mO 67) 54 = some 1 ∧ tV (mO 67) 54 6 = some 73 := by decide +kernel
theorem k67_34 : decode (mB 67) 34 = .ok (.return_, 1) ∧ mR 67 = none := by decide +kernel
-- 68: ChairPast$Reader.readNumber:(II)I, locals 5
theorem l68 : mL 68 = 5 := by decide +kernel
theorem k68_0 : decode (mB 68) 0 = .ok (.aload_n 0, 1) := by decide +kernel
theorem k68_1 : decode (mB 68) 1 = .ok (.getfield 36, 3) ∧ tF (mO 68) 36 = some (6, 4, 0, 0) := by decide +kernel
theorem k68_4 : decode (mB 68) 4 = .ok (.ifCond .eq 5, 3) := by decide +kernel
theorem k68_7 : decode (mB 68) 7 = .ok (.iload_n 1, 1) := by decide +kernel
theorem k68_8 : decode (mB 68) 8 = .ok (.ireturn, 1) ∧ mR 68 = (some .int) := by decide +kernel
theorem k68_9 : decode (mB 68) 9 = .ok (.iconst 0, 1) := by decide +kernel
theorem k68_10 : decode (mB 68) 10 = .ok (.istore_n 3, 1) := by decide +kernel
theorem k68_11 : decode (mB 68) 11 = .ok (.iconst 0, 1) := by decide +kernel
theorem k68_12 : decode (mB 68) 12 = .ok (.istore 4, 2) := by decide +kernel
theorem k68_14 : decode (mB 68) 14 = .ok (.iload_n 3, 1) := by decide +kernel
theorem k68_15 : decode (mB 68) 15 = .ok (.iconst 2, 1) := by decide +kernel
theorem k68_16 : decode (mB 68) 16 = .ok (.if_icmp .gt 46, 3) := by decide +kernel
theorem k68_19 : decode (mB 68) 19 = .ok (.aload_n 0, 1) := by decide +kernel
theorem k68_20 : decode (mB 68) 20 = .ok (.aload_n 0, 1) := by decide +kernel
theorem k68_21 : decode (mB 68) 21 = .ok (.getfield 32, 3) ∧ tF (mO 68) 32 = some (6, 3, 0, 0) := by decide +kernel
theorem k68_24 : decode (mB 68) 24 = .ok (.iload_n 3, 1) := by decide +kernel
theorem k68_25 : decode (mB 68) 25 = .ok (.iadd, 1) := by decide +kernel
theorem k68_26 : decode (mB 68) 26 = .ok (.invokevirtual 102, 3) ∧ tVn (mO 68) 102 = some 1 ∧ tV (mO 68) 102 6 = some 70 := by decide +kernel
theorem k68_29 : decode (mB 68) 29 = .ok (.invokestatic 105, 3) ∧ tM (mO 68) 105 = none ∧ tS (mO 68) 105 = some 71 := by decide +kernel
theorem k68_32 : decode (mB 68) 32 = .ok (.ifCond .eq 30, 3) := by decide +kernel
theorem k68_35 : decode (mB 68) 35 = .ok (.iload 4, 2) := by decide +kernel
theorem k68_37 : decode (mB 68) 37 = .ok (.bipush 10, 2) := by decide +kernel
theorem k68_39 : decode (mB 68) 39 = .ok (.imul, 1) := by decide +kernel
theorem k68_40 : decode (mB 68) 40 = .ok (.aload_n 0, 1) := by decide +kernel
theorem k68_41 : decode (mB 68) 41 = .ok (.aload_n 0, 1) := by decide +kernel
theorem k68_42 : decode (mB 68) 42 = .ok (.getfield 32, 3) ∧ tF (mO 68) 32 = some (6, 3, 0, 0) := by decide +kernel
theorem k68_45 : decode (mB 68) 45 = .ok (.iload_n 3, 1) := by decide +kernel
theorem k68_46 : decode (mB 68) 46 = .ok (.iadd, 1) := by decide +kernel
theorem k68_47 : decode (mB 68) 47 = .ok (.invokevirtual 102, 3) ∧ tVn (mO 68) 102 = some 1 ∧ tV (mO 68) 102 6 = some 70 := by decide +kernel
theorem k68_50 : decode (mB 68) 50 = .ok (.iadd, 1) := by decide +kernel
theorem k68_51 : decode (mB 68) 51 = .ok (.bipush 48, 2) := by decide +kernel
theorem k68_53 : decode (mB 68) 53 = .ok (.isub, 1) := by decide +kernel
theorem k68_54 : decode (mB 68) 54 = .ok (.istore 4, 2) := by decide +kernel
theorem k68_56 : decode (mB 68) 56 = .ok (.iinc 3 1, 3) := by decide +kernel
theorem k68_59 : decode (mB 68) 59 = .ok (.goto (-45), 3) := by decide +kernel
theorem k68_62 : decode (mB 68) 62 = .ok (.iload_n 3, 1) := by decide +kernel
theorem k68_63 : decode (mB 68) 63 = .ok (.ifCond .eq 8, 3) := by decide +kernel
theorem k68_66 : decode (mB 68) 66 = .ok (.iload_n 3, 1) := by decide +kernel
theorem k68_67 : decode (mB 68) 67 = .ok (.iconst 2, 1) := by decide +kernel
theorem k68_68 : decode (mB 68) 68 = .ok (.if_icmp .le 11, 3) := by decide +kernel
theorem k68_71 : decode (mB 68) 71 = .ok (.aload_n 0, 1) := by decide +kernel
theorem k68_72 : decode (mB 68) 72 = .ok (.iconst 1, 1) := by decide +kernel
theorem k68_73 : decode (mB 68) 73 = .ok (.invokevirtual 54, 3) ∧ tVn (mO 68) 54 = some 1 ∧ tV (mO 68) 54 6 = some 73 := by decide +kernel
theorem k68_76 : decode (mB 68) 76 = .ok (.goto 33, 3) := by decide +kernel
theorem k68_79 : decode (mB 68) 79 = .ok (.iload 4, 2) := by decide +kernel
theorem k68_81 : decode (mB 68) 81 = .ok (.iload_n 1, 1) := by decide +kernel
theorem k68_82 : decode (mB 68) 82 = .ok (.if_icmp .lt 9, 3) := by decide +kernel
theorem k68_85 : decode (mB 68) 85 = .ok (.iload 4, 2) := by decide +kernel
theorem k68_87 : decode (mB 68) 87 = .ok (.iload_n 2, 1) := by decide +kernel
theorem k68_88 : decode (mB 68) 88 = .ok (.if_icmp .le 11, 3) := by decide +kernel
theorem k68_91 : decode (mB 68) 91 = .ok (.aload_n 0, 1) := by decide +kernel
theorem k68_92 : decode (mB 68) 92 = .ok (.iconst 2, 1) := by decide +kernel
theorem k68_93 : decode (mB 68) 93 = .ok (.invokevirtual 54, 3) ∧ tVn (mO 68) 54 = some 1 ∧ tV (mO 68) 54 6 = some 73 := by decide +kernel
theorem k68_96 : decode (mB 68) 96 = .ok (.goto 13, 3) := by decide +kernel
theorem k68_99 : decode (mB 68) 99 = .ok (.aload_n 0, 1) := by decide +kernel
theorem k68_100 : decode (mB 68) 100 = .ok (.dup, 1) := by decide +kernel
theorem k68_101 : decode (mB 68) 101 = .ok (.getfield 32, 3) ∧ tF (mO 68) 32 = some (6, 3, 0, 0) := by decide +kernel
theorem k68_104 : decode (mB 68) 104 = .ok (.iload_n 3, 1) := by decide +kernel
theorem k68_105 : decode (mB 68) 105 = .ok (.iadd, 1) := by decide +kernel
theorem k68_106 : decode (mB 68) 106 = .ok (.putfield 32, 3) ∧ tF (mO 68) 32 = some (6, 3, 0, 0) := by decide +kernel
theorem k68_109 : decode (mB 68) 109 = .ok (.iload 4, 2) := by decide +kernel
theorem k68_111 : decode (mB 68) 111 = .ok (.ireturn, 1) ∧ mR 68 = (some .int) := by decide +kernel
-- 69: ChairPast$Reader.ahead:()I, locals 1
theorem l69 : mL 69 = 1 := by decide +kernel
theorem k69_0 : decode (mB 69) 0 = .ok (.aload_n 0, 1) := by decide +kernel
theorem k69_1 : decode (mB 69) 1 = .ok (.aload_n 0, 1) := by decide +kernel
theorem k69_2 : decode (mB 69) 2 = .ok (.getfield 32, 3) ∧ tF (mO 69) 32 = some (6, 3, 0, 0) := by decide +kernel
theorem k69_5 : decode (mB 69) 5 = .ok (.invokevirtual 102, 3) ∧ tVn (mO 69) 102 = some 1 ∧ tV (mO 69) 102 6 = some 70 := by decide +kernel
theorem k69_8 : decode (mB 69) 8 = .ok (.ireturn, 1) ∧ mR 69 = (some .int) := by decide +kernel
-- 70: ChairPast$Reader.byteAt:(I)I, locals 2
theorem l70 : mL 70 = 2 := by decide +kernel
theorem k70_0 : decode (mB 70) 0 = .ok (.iload_n 1, 1) := by decide +kernel
theorem k70_1 : decode (mB 70) 1 = .ok (.aload_n 0, 1) := by decide +kernel
theorem k70_2 : decode (mB 70) 2 = .ok (.getfield 14, 3) ∧ tF (mO 70) 14 = some (6, 0, 1, 1) := by decide +kernel
theorem k70_5 : decode (mB 70) 5 = .ok (.getfield 51, 3) ∧ tF (mO 70) 51 = some (4, 1, 0, 0) := by decide +kernel
theorem k70_8 : decode (mB 70) 8 = .ok (.if_icmp .ge 14, 3) := by decide +kernel
theorem k70_11 : decode (mB 70) 11 = .ok (.aload_n 0, 1) := by decide +kernel
theorem k70_12 : decode (mB 70) 12 = .ok (.getfield 14, 3) ∧ tF (mO 70) 14 = some (6, 0, 1, 1) := by decide +kernel
theorem k70_15 : decode (mB 70) 15 = .ok (.iload_n 1, 1) := by decide +kernel
theorem k70_16 : decode (mB 70) 16 = .ok (.invokevirtual 109, 3) ∧ tVn (mO 70) 109 = some 1 ∧ tV (mO 70) 109 4 = some 48 := by decide +kernel
theorem k70_19 : decode (mB 70) 19 = .ok (.goto 4, 3) := by decide +kernel
theorem k70_22 : decode (mB 70) 22 = .ok (.iconst (-1), 1) := by decide +kernel
theorem k70_23 : decode (mB 70) 23 = .ok (.ireturn, 1) ∧ mR 70 = (some .int) := by decide +kernel
-- 71: ChairPast$Reader.isFigure:(I)Z, locals 1
theorem l71 : mL 71 = 1 := by decide +kernel
theorem k71_0 : decode (mB 71) 0 = .ok (.iload_n 0, 1) := by decide +kernel
theorem k71_1 : decode (mB 71) 1 = .ok (.bipush 48, 2) := by decide +kernel
theorem k71_3 : decode (mB 71) 3 = .ok (.if_icmp .lt 13, 3) := by decide +kernel
theorem k71_6 : decode (mB 71) 6 = .ok (.iload_n 0, 1) := by decide +kernel
theorem k71_7 : decode (mB 71) 7 = .ok (.bipush 57, 2) := by decide +kernel
theorem k71_9 : decode (mB 71) 9 = .ok (.if_icmp .gt 7, 3) := by decide +kernel
theorem k71_12 : decode (mB 71) 12 = .ok (.iconst 1, 1) := by decide +kernel
theorem k71_13 : decode (mB 71) 13 = .ok (.goto 4, 3) := by decide +kernel
theorem k71_16 : decode (mB 71) 16 = .ok (.iconst 0, 1) := by decide +kernel
theorem k71_17 : decode (mB 71) 17 = .ok (.ireturn, 1) ∧ mR 71 = (some .boolean) := by decide +kernel
-- 72: ChairPast$Reader.kindBy:(I)I, locals 1
theorem l72 : mL 72 = 1 := by decide +kernel
theorem k72_0 : decode (mB 72) 0 = .ok (.iload_n 0, 1) := by decide +kernel
theorem k72_1 : decode (mB 72) 1 = .ok (.lookupswitch 61 #[(98, 55), (100, 59), (112, 51), (114, 53), (116, 57)], 51) := by decide +kernel
theorem k72_52 : decode (mB 72) 52 = .ok (.iconst 1, 1) := by decide +kernel
theorem k72_53 : decode (mB 72) 53 = .ok (.ireturn, 1) ∧ mR 72 = (some .int) := by decide +kernel
theorem k72_54 : decode (mB 72) 54 = .ok (.iconst 2, 1) := by decide +kernel
theorem k72_55 : decode (mB 72) 55 = .ok (.ireturn, 1) ∧ mR 72 = (some .int) := by decide +kernel
theorem k72_56 : decode (mB 72) 56 = .ok (.iconst 3, 1) := by decide +kernel
theorem k72_57 : decode (mB 72) 57 = .ok (.ireturn, 1) ∧ mR 72 = (some .int) := by decide +kernel
theorem k72_58 : decode (mB 72) 58 = .ok (.iconst 4, 1) := by decide +kernel
theorem k72_59 : decode (mB 72) 59 = .ok (.ireturn, 1) ∧ mR 72 = (some .int) := by decide +kernel
theorem k72_60 : decode (mB 72) 60 = .ok (.iconst 5, 1) := by decide +kernel
theorem k72_61 : decode (mB 72) 61 = .ok (.ireturn, 1) ∧ mR 72 = (some .int) := by decide +kernel
theorem k72_62 : decode (mB 72) 62 = .ok (.iconst 0, 1) := by decide +kernel
theorem k72_63 : decode (mB 72) 63 = .ok (.ireturn, 1) ∧ mR 72 = (some .int) := by decide +kernel
-- 73: ChairPast$Reader.fail:(I)V, locals 2
theorem l73 : mL 73 = 2 := by decide +kernel
theorem k73_0 : decode (mB 73) 0 = .ok (.aload_n 0, 1) := by decide +kernel
theorem k73_1 : decode (mB 73) 1 = .ok (.getfield 36, 3) ∧ tF (mO 73) 36 = some (6, 4, 0, 0) := by decide +kernel
theorem k73_4 : decode (mB 73) 4 = .ok (.ifCond .ne 8, 3) := by decide +kernel
theorem k73_7 : decode (mB 73) 7 = .ok (.aload_n 0, 1) := by decide +kernel
theorem k73_8 : decode (mB 73) 8 = .ok (.iload_n 1, 1) := by decide +kernel
theorem k73_9 : decode (mB 73) 9 = .ok (.putfield 36, 3) ∧ tF (mO 73) 36 = some (6, 4, 0, 0) := by decide +kernel
theorem k73_12 : decode (mB 73) 12 = .ok (.return_, 1) ∧ mR 73 = none := by decide +kernel
-- 75: ChairPast$Rocker.number:()I, locals 1
theorem l75 : mL 75 = 1 := by decide +kernel
theorem k75_0 : decode (mB 75) 0 = .ok (.iconst 2, 1) := by decide +kernel
theorem k75_1 : decode (mB 75) 1 = .ok (.ireturn, 1) ∧ mR 75 = (some .int) := by decide +kernel
-- 76: ChairPast$Rocker.bearingOn:(LChairPast$Chair;I)I, locals 3
theorem l76 : mL 76 = 3 := by decide +kernel
theorem k76_0 : decode (mB 76) 0 = .ok (.aload_n 1, 1) := by decide +kernel
theorem k76_1 : decode (mB 76) 1 = .ok (.getfield 7, 3) ∧ tF (mO 76) 7 = some (1, 4, 0, 0) := by decide +kernel
theorem k76_4 : decode (mB 76) 4 = .ok (.iconst 2, 1) := by decide +kernel
theorem k76_5 : decode (mB 76) 5 = .ok (.irem, 1) := by decide +kernel
theorem k76_6 : decode (mB 76) 6 = .ok (.ifCond .ne 18, 3) := by decide +kernel
theorem k76_9 : decode (mB 76) 9 = .ok (.aload_n 1, 1) := by decide +kernel
theorem k76_10 : decode (mB 76) 10 = .ok (.getfield 13, 3) ∧ tF (mO 76) 13 = some (1, 1, 0, 0) := by decide +kernel
theorem k76_13 : decode (mB 76) 13 = .ok (.aload_n 1, 1) := by decide +kernel
theorem k76_14 : decode (mB 76) 14 = .ok (.getfield 16, 3) ∧ tF (mO 76) 16 = some (1, 2, 0, 0) := by decide +kernel
theorem k76_17 : decode (mB 76) 17 = .ok (.iload_n 2, 1) := by decide +kernel
theorem k76_18 : decode (mB 76) 18 = .ok (.invokestatic 19, 3) ∧ tM (mO 76) 19 = none ∧ tS (mO 76) 19 = some 58 := by decide +kernel
theorem k76_21 : decode (mB 76) 21 = .ok (.goto 4, 3) := by decide +kernel
theorem k76_24 : decode (mB 76) 24 = .ok (.iload_n 2, 1) := by decide +kernel
theorem k76_25 : decode (mB 76) 25 = .ok (.ireturn, 1) ∧ mR 76 = (some .int) := by decide +kernel
-- 77: ChairPast$Rocker.sizeOf:(LChairPast$Chair;LChairPast$Line;)I, locals 3
theorem l77 : mL 77 = 3 := by decide +kernel
theorem k77_0 : decode (mB 77) 0 = .ok (.aload_n 2, 1) := by decide +kernel
theorem k77_1 : decode (mB 77) 1 = .ok (.bipush 12, 2) := by decide +kernel
theorem k77_3 : decode (mB 77) 3 = .ok (.invokevirtual 25, 3) ∧ tVn (mO 77) 25 = some 1 ∧ tV (mO 77) 25 4 = some 47 := by decide +kernel
theorem k77_6 : decode (mB 77) 6 = .ok (.pop, 1) := by decide +kernel
theorem k77_7 : decode (mB 77) 7 = .ok (.aload_n 0, 1) := by decide +kernel
theorem k77_8 : decode (mB 77) 8 = .ok (.aload_n 1, 1) := by decide +kernel
theorem k77_9 : decode (mB 77) 9 = .ok (.aload_n 2, 1) := by decide +kernel
theorem k77_10 : decode (mB 77) 10 = .ok (.invokespecial 31, 3) ∧ tB (mO 77) 31 = false ∧ tI (mO 77) 31 = none ∧ tJ (mO 77) 31 = none ∧ tP (mO 77) 31 = some 56 := by decide +kernel
theorem k77_13 : decode (mB 77) 13 = .ok (.ineg, 1) := by decide +kernel
theorem k77_14 : decode (mB 77) 14 = .ok (.ireturn, 1) ∧ mR 77 = (some .int) := by decide +kernel
-- 78: ChairPast$Rocker.markOf:(LChairPast$Chair;LChairPast$Line;)I, locals 3
theorem l78 : mL 78 = 3 := by decide +kernel
theorem k78_0 : decode (mB 78) 0 = .ok (.aload_n 2, 1) := by decide +kernel
theorem k78_1 : decode (mB 78) 1 = .ok (.bipush 24, 2) := by decide +kernel
theorem k78_3 : decode (mB 78) 3 = .ok (.invokevirtual 25, 3) ∧ tVn (mO 78) 25 = some 1 ∧ tV (mO 78) 25 4 = some 47 := by decide +kernel
theorem k78_6 : decode (mB 78) 6 = .ok (.pop, 1) := by decide +kernel
theorem k78_7 : decode (mB 78) 7 = .ok (.iconst 2, 1) := by decide +kernel
theorem k78_8 : decode (mB 78) 8 = .ok (.aload_n 0, 1) := by decide +kernel
theorem k78_9 : decode (mB 78) 9 = .ok (.aload_n 1, 1) := by decide +kernel
theorem k78_10 : decode (mB 78) 10 = .ok (.aload_n 2, 1) := by decide +kernel
theorem k78_11 : decode (mB 78) 11 = .ok (.invokespecial 35, 3) ∧ tB (mO 78) 35 = false ∧ tI (mO 78) 35 = none ∧ tJ (mO 78) 35 = none ∧ tP (mO 78) 35 = some 57 := by decide +kernel
theorem k78_14 : decode (mB 78) 14 = .ok (.imul, 1) := by decide +kernel
theorem k78_15 : decode (mB 78) 15 = .ok (.ireturn, 1) ∧ mR 78 = (some .int) := by decide +kernel
-- 80: ChairPast$Room.empty:()V, locals 1
theorem l80 : mL 80 = 1 := by decide +kernel
theorem k80_0 : decode (mB 80) 0 = .ok (.aload_n 0, 1) := by decide +kernel
theorem k80_1 : decode (mB 80) 1 = .ok (.iconst 0, 1) := by decide +kernel
theorem k80_2 : decode (mB 80) 2 = .ok (.putfield 37, 3) ∧ tF (mO 80) 37 = some (8, 6, 0, 0) := by decide +kernel
theorem k80_5 : decode (mB 80) 5 = .ok (.aload_n 0, 1) := by decide +kernel
theorem k80_6 : decode (mB 80) 6 = .ok (.iconst 0, 1) := by decide +kernel
theorem k80_7 : decode (mB 80) 7 = .ok (.putfield 41, 3) ∧ tF (mO 80) 41 = some (8, 7, 0, 0) := by decide +kernel
theorem k80_10 : decode (mB 80) 10 = .ok (.aload_n 0, 1) := by decide +kernel
theorem k80_11 : decode (mB 80) 11 = .ok (.iconst 0, 1) := by decide +kernel
theorem k80_12 : decode (mB 80) 12 = .ok (.putfield 44, 3) ∧ tF (mO 80) 44 = some (8, 8, 0, 0) := by decide +kernel
theorem k80_15 : decode (mB 80) 15 = .ok (.return_, 1) ∧ mR 80 = none := by decide +kernel
-- 81: ChairPast$Room.addChair:(IIII)V, locals 6
theorem l81 : mL 81 = 6 := by decide +kernel
theorem k81_0 : decode (mB 81) 0 = .ok (.aload_n 0, 1) := by decide +kernel
theorem k81_1 : decode (mB 81) 1 = .ok (.getfield 37, 3) ∧ tF (mO 81) 37 = some (8, 6, 0, 0) := by decide +kernel
theorem k81_4 : decode (mB 81) 4 = .ok (.iconst 5, 1) := by decide +kernel
theorem k81_5 : decode (mB 81) 5 = .ok (.if_icmp .ge 17, 3) := by decide +kernel
theorem k81_8 : decode (mB 81) 8 = .ok (.iload_n 1, 1) := by decide +kernel
theorem k81_9 : decode (mB 81) 9 = .ok (.iconst 1, 1) := by decide +kernel
theorem k81_10 : decode (mB 81) 10 = .ok (.if_icmp .lt 12, 3) := by decide +kernel
theorem k81_13 : decode (mB 81) 13 = .ok (.iload_n 1, 1) := by decide +kernel
theorem k81_14 : decode (mB 81) 14 = .ok (.aload_n 0, 1) := by decide +kernel
theorem k81_15 : decode (mB 81) 15 = .ok (.getfield 30, 3) ∧ tF (mO 81) 30 = some (8, 0, 1, 1) := by decide +kernel
theorem k81_18 : decode (mB 81) 18 = .ok (.arraylength, 1) := by decide +kernel
theorem k81_19 : decode (mB 81) 19 = .ok (.if_icmp .le 4, 3) := by decide +kernel
theorem k81_22 : decode (mB 81) 22 = .ok (.return_, 1) ∧ mR 81 = none := by decide +kernel
theorem k81_23 : decode (mB 81) 23 = .ok (.aload_n 0, 1) := by decide +kernel
theorem k81_24 : decode (mB 81) 24 = .ok (.getfield 11, 3) ∧ tF (mO 81) 11 = some (8, 1, 1, 1) := by decide +kernel
theorem k81_27 : decode (mB 81) 27 = .ok (.aload_n 0, 1) := by decide +kernel
theorem k81_28 : decode (mB 81) 28 = .ok (.getfield 37, 3) ∧ tF (mO 81) 37 = some (8, 6, 0, 0) := by decide +kernel
theorem k81_31 : decode (mB 81) 31 = .ok (.aaload, 1) := by decide +kernel
theorem k81_32 : decode (mB 81) 32 = .ok (.astore 5, 2) := by decide +kernel
theorem k81_34 : decode (mB 81) 34 = .ok (.aload 5, 2) := by decide +kernel
theorem k81_36 : decode (mB 81) 36 = .ok (.aload_n 0, 1) := by decide +kernel
theorem k81_37 : decode (mB 81) 37 = .ok (.getfield 30, 3) ∧ tF (mO 81) 30 = some (8, 0, 1, 1) := by decide +kernel
theorem k81_40 : decode (mB 81) 40 = .ok (.iload_n 1, 1) := by decide +kernel
theorem k81_41 : decode (mB 81) 41 = .ok (.iconst 1, 1) := by decide +kernel
theorem k81_42 : decode (mB 81) 42 = .ok (.isub, 1) := by decide +kernel
theorem k81_43 : decode (mB 81) 43 = .ok (.aaload, 1) := by decide +kernel
theorem k81_44 : decode (mB 81) 44 = .ok (.putfield 47, 3) ∧ tF (mO 81) 47 = some (1, 0, 1, 0) := by decide +kernel
theorem k81_47 : decode (mB 81) 47 = .ok (.aload 5, 2) := by decide +kernel
theorem k81_49 : decode (mB 81) 49 = .ok (.iload_n 2, 1) := by decide +kernel
theorem k81_50 : decode (mB 81) 50 = .ok (.putfield 51, 3) ∧ tF (mO 81) 51 = some (1, 1, 0, 0) := by decide +kernel
theorem k81_53 : decode (mB 81) 53 = .ok (.aload 5, 2) := by decide +kernel
theorem k81_55 : decode (mB 81) 55 = .ok (.iload_n 3, 1) := by decide +kernel
theorem k81_56 : decode (mB 81) 56 = .ok (.putfield 54, 3) ∧ tF (mO 81) 54 = some (1, 2, 0, 0) := by decide +kernel
theorem k81_59 : decode (mB 81) 59 = .ok (.aload 5, 2) := by decide +kernel
theorem k81_61 : decode (mB 81) 61 = .ok (.iload 4, 2) := by decide +kernel
theorem k81_63 : decode (mB 81) 63 = .ok (.putfield 57, 3) ∧ tF (mO 81) 57 = some (1, 3, 0, 0) := by decide +kernel
theorem k81_66 : decode (mB 81) 66 = .ok (.aload 5, 2) := by decide +kernel
theorem k81_68 : decode (mB 81) 68 = .ok (.iconst 0, 1) := by decide +kernel
theorem k81_69 : decode (mB 81) 69 = .ok (.putfield 60, 3) ∧ tF (mO 81) 60 = some (1, 4, 0, 0) := by decide +kernel
theorem k81_72 : decode (mB 81) 72 = .ok (.aload 5, 2) := by decide +kernel
theorem k81_74 : decode (mB 81) 74 = .ok (.ldc 63, 2) ∧ tK (mO 81) 63 = some (-1000000) := by decide +kernel
theorem k81_76 : decode (mB 81) 76 = .ok (.putfield 64, 3) ∧ tF (mO 81) 64 = some (1, 5, 0, 0) := by decide +kernel
theorem k81_79 : decode (mB 81) 79 = .ok (.aload_n 0, 1) := by decide +kernel
theorem k81_80 : decode (mB 81) 80 = .ok (.dup, 1) := by decide +kernel
theorem k81_81 : decode (mB 81) 81 = .ok (.getfield 37, 3) ∧ tF (mO 81) 37 = some (8, 6, 0, 0) := by decide +kernel
theorem k81_84 : decode (mB 81) 84 = .ok (.iconst 1, 1) := by decide +kernel
theorem k81_85 : decode (mB 81) 85 = .ok (.iadd, 1) := by decide +kernel
theorem k81_86 : decode (mB 81) 86 = .ok (.putfield 37, 3) ∧ tF (mO 81) 37 = some (8, 6, 0, 0) := by decide +kernel
theorem k81_89 : decode (mB 81) 89 = .ok (.return_, 1) ∧ mR 81 = none := by decide +kernel
-- 82: ChairPast$Room.addGuest:(II)V, locals 3
theorem l82 : mL 82 = 3 := by decide +kernel
theorem k82_0 : decode (mB 82) 0 = .ok (.aload_n 0, 1) := by decide +kernel
theorem k82_1 : decode (mB 82) 1 = .ok (.getfield 41, 3) ∧ tF (mO 82) 41 = some (8, 7, 0, 0) := by decide +kernel
theorem k82_4 : decode (mB 82) 4 = .ok (.iconst 5, 1) := by decide +kernel
theorem k82_5 : decode (mB 82) 5 = .ok (.if_icmp .lt 4, 3) := by decide +kernel
theorem k82_8 : decode (mB 82) 8 = .ok (.return_, 1) ∧ mR 82 = none := by decide +kernel
theorem k82_9 : decode (mB 82) 9 = .ok (.aload_n 0, 1) := by decide +kernel
theorem k82_10 : decode (mB 82) 10 = .ok (.getfield 17, 3) ∧ tF (mO 82) 17 = some (8, 2, 1, 1) := by decide +kernel
theorem k82_13 : decode (mB 82) 13 = .ok (.aload_n 0, 1) := by decide +kernel
theorem k82_14 : decode (mB 82) 14 = .ok (.getfield 41, 3) ∧ tF (mO 82) 41 = some (8, 7, 0, 0) := by decide +kernel
theorem k82_17 : decode (mB 82) 17 = .ok (.iload_n 1, 1) := by decide +kernel
theorem k82_18 : decode (mB 82) 18 = .ok (.iastore, 1) := by decide +kernel
theorem k82_19 : decode (mB 82) 19 = .ok (.aload_n 0, 1) := by decide +kernel
theorem k82_20 : decode (mB 82) 20 = .ok (.getfield 21, 3) ∧ tF (mO 82) 21 = some (8, 3, 1, 1) := by decide +kernel
theorem k82_23 : decode (mB 82) 23 = .ok (.aload_n 0, 1) := by decide +kernel
theorem k82_24 : decode (mB 82) 24 = .ok (.getfield 41, 3) ∧ tF (mO 82) 41 = some (8, 7, 0, 0) := by decide +kernel
theorem k82_27 : decode (mB 82) 27 = .ok (.iload_n 2, 1) := by decide +kernel
theorem k82_28 : decode (mB 82) 28 = .ok (.iastore, 1) := by decide +kernel
theorem k82_29 : decode (mB 82) 29 = .ok (.aload_n 0, 1) := by decide +kernel
theorem k82_30 : decode (mB 82) 30 = .ok (.getfield 24, 3) ∧ tF (mO 82) 24 = some (8, 4, 1, 1) := by decide +kernel
theorem k82_33 : decode (mB 82) 33 = .ok (.aload_n 0, 1) := by decide +kernel
theorem k82_34 : decode (mB 82) 34 = .ok (.getfield 41, 3) ∧ tF (mO 82) 41 = some (8, 7, 0, 0) := by decide +kernel
theorem k82_37 : decode (mB 82) 37 = .ok (.ldc 63, 2) ∧ tK (mO 82) 63 = some (-1000000) := by decide +kernel
theorem k82_39 : decode (mB 82) 39 = .ok (.iastore, 1) := by decide +kernel
theorem k82_40 : decode (mB 82) 40 = .ok (.aload_n 0, 1) := by decide +kernel
theorem k82_41 : decode (mB 82) 41 = .ok (.getfield 27, 3) ∧ tF (mO 82) 27 = some (8, 5, 1, 1) := by decide +kernel
theorem k82_44 : decode (mB 82) 44 = .ok (.aload_n 0, 1) := by decide +kernel
theorem k82_45 : decode (mB 82) 45 = .ok (.getfield 41, 3) ∧ tF (mO 82) 41 = some (8, 7, 0, 0) := by decide +kernel
theorem k82_48 : decode (mB 82) 48 = .ok (.ldc 63, 2) ∧ tK (mO 82) 63 = some (-1000000) := by decide +kernel
theorem k82_50 : decode (mB 82) 50 = .ok (.iastore, 1) := by decide +kernel
theorem k82_51 : decode (mB 82) 51 = .ok (.aload_n 0, 1) := by decide +kernel
theorem k82_52 : decode (mB 82) 52 = .ok (.dup, 1) := by decide +kernel
theorem k82_53 : decode (mB 82) 53 = .ok (.getfield 41, 3) ∧ tF (mO 82) 41 = some (8, 7, 0, 0) := by decide +kernel
theorem k82_56 : decode (mB 82) 56 = .ok (.iconst 1, 1) := by decide +kernel
theorem k82_57 : decode (mB 82) 57 = .ok (.iadd, 1) := by decide +kernel
theorem k82_58 : decode (mB 82) 58 = .ok (.putfield 41, 3) ∧ tF (mO 82) 41 = some (8, 7, 0, 0) := by decide +kernel
theorem k82_61 : decode (mB 82) 61 = .ok (.return_, 1) ∧ mR 82 = none := by decide +kernel
-- 83: ChairPast$Room.stands:()Z, locals 1
theorem l83 : mL 83 = 1 := by decide +kernel
theorem k83_0 : decode (mB 83) 0 = .ok (.aload_n 0, 1) := by decide +kernel
theorem k83_1 : decode (mB 83) 1 = .ok (.getfield 37, 3) ∧ tF (mO 83) 37 = some (8, 6, 0, 0) := by decide +kernel
theorem k83_4 : decode (mB 83) 4 = .ok (.ifCond .le 7, 3) := by decide +kernel
theorem k83_7 : decode (mB 83) 7 = .ok (.iconst 1, 1) := by decide +kernel
theorem k83_8 : decode (mB 83) 8 = .ok (.goto 4, 3) := by decide +kernel
theorem k83_11 : decode (mB 83) 11 = .ok (.iconst 0, 1) := by decide +kernel
theorem k83_12 : decode (mB 83) 12 = .ok (.ireturn, 1) ∧ mR 83 = (some .boolean) := by decide +kernel
-- 84: ChairPast$Room.hasChair:(I)Z, locals 2
theorem l84 : mL 84 = 2 := by decide +kernel
theorem k84_0 : decode (mB 84) 0 = .ok (.iload_n 1, 1) := by decide +kernel
theorem k84_1 : decode (mB 84) 1 = .ok (.ifCond .lt 15, 3) := by decide +kernel
theorem k84_4 : decode (mB 84) 4 = .ok (.iload_n 1, 1) := by decide +kernel
theorem k84_5 : decode (mB 84) 5 = .ok (.aload_n 0, 1) := by decide +kernel
theorem k84_6 : decode (mB 84) 6 = .ok (.getfield 37, 3) ∧ tF (mO 84) 37 = some (8, 6, 0, 0) := by decide +kernel
theorem k84_9 : decode (mB 84) 9 = .ok (.if_icmp .ge 7, 3) := by decide +kernel
theorem k84_12 : decode (mB 84) 12 = .ok (.iconst 1, 1) := by decide +kernel
theorem k84_13 : decode (mB 84) 13 = .ok (.goto 4, 3) := by decide +kernel
theorem k84_16 : decode (mB 84) 16 = .ok (.iconst 0, 1) := by decide +kernel
theorem k84_17 : decode (mB 84) 17 = .ok (.ireturn, 1) ∧ mR 84 = (some .boolean) := by decide +kernel
-- 85: ChairPast$Room.hasGuest:(I)Z, locals 2
theorem l85 : mL 85 = 2 := by decide +kernel
theorem k85_0 : decode (mB 85) 0 = .ok (.iload_n 1, 1) := by decide +kernel
theorem k85_1 : decode (mB 85) 1 = .ok (.ifCond .lt 15, 3) := by decide +kernel
theorem k85_4 : decode (mB 85) 4 = .ok (.iload_n 1, 1) := by decide +kernel
theorem k85_5 : decode (mB 85) 5 = .ok (.aload_n 0, 1) := by decide +kernel
theorem k85_6 : decode (mB 85) 6 = .ok (.getfield 41, 3) ∧ tF (mO 85) 41 = some (8, 7, 0, 0) := by decide +kernel
theorem k85_9 : decode (mB 85) 9 = .ok (.if_icmp .ge 7, 3) := by decide +kernel
theorem k85_12 : decode (mB 85) 12 = .ok (.iconst 1, 1) := by decide +kernel
theorem k85_13 : decode (mB 85) 13 = .ok (.goto 4, 3) := by decide +kernel
theorem k85_16 : decode (mB 85) 16 = .ok (.iconst 0, 1) := by decide +kernel
theorem k85_17 : decode (mB 85) 17 = .ok (.ireturn, 1) ∧ mR 85 = (some .boolean) := by decide +kernel
-- 86: ChairPast$Room.isSeated:(I)Z, locals 2
theorem l86 : mL 86 = 2 := by decide +kernel
theorem k86_0 : decode (mB 86) 0 = .ok (.aload_n 0, 1) := by decide +kernel
theorem k86_1 : decode (mB 86) 1 = .ok (.getfield 24, 3) ∧ tF (mO 86) 24 = some (8, 4, 1, 1) := by decide +kernel
theorem k86_4 : decode (mB 86) 4 = .ok (.iload_n 1, 1) := by decide +kernel
theorem k86_5 : decode (mB 86) 5 = .ok (.iaload, 1) := by decide +kernel
theorem k86_6 : decode (mB 86) 6 = .ok (.ldc 63, 2) ∧ tK (mO 86) 63 = some (-1000000) := by decide +kernel
theorem k86_8 : decode (mB 86) 8 = .ok (.if_icmp .eq 7, 3) := by decide +kernel
theorem k86_11 : decode (mB 86) 11 = .ok (.iconst 1, 1) := by decide +kernel
theorem k86_12 : decode (mB 86) 12 = .ok (.goto 4, 3) := by decide +kernel
theorem k86_15 : decode (mB 86) 15 = .ok (.iconst 0, 1) := by decide +kernel
theorem k86_16 : decode (mB 86) 16 = .ok (.ireturn, 1) ∧ mR 86 = (some .boolean) := by decide +kernel
-- 87: ChairPast$Room.isTaken:(I)Z, locals 2
theorem l87 : mL 87 = 2 := by decide +kernel
theorem k87_0 : decode (mB 87) 0 = .ok (.aload_n 0, 1) := by decide +kernel
theorem k87_1 : decode (mB 87) 1 = .ok (.getfield 11, 3) ∧ tF (mO 87) 11 = some (8, 1, 1, 1) := by decide +kernel
theorem k87_4 : decode (mB 87) 4 = .ok (.iload_n 1, 1) := by decide +kernel
theorem k87_5 : decode (mB 87) 5 = .ok (.aaload, 1) := by decide +kernel
theorem k87_6 : decode (mB 87) 6 = .ok (.getfield 64, 3) ∧ tF (mO 87) 64 = some (1, 5, 0, 0) := by decide +kernel
theorem k87_9 : decode (mB 87) 9 = .ok (.ldc 63, 2) ∧ tK (mO 87) 63 = some (-1000000) := by decide +kernel
theorem k87_11 : decode (mB 87) 11 = .ok (.if_icmp .eq 7, 3) := by decide +kernel
theorem k87_14 : decode (mB 87) 14 = .ok (.iconst 1, 1) := by decide +kernel
theorem k87_15 : decode (mB 87) 15 = .ok (.goto 4, 3) := by decide +kernel
theorem k87_18 : decode (mB 87) 18 = .ok (.iconst 0, 1) := by decide +kernel
theorem k87_19 : decode (mB 87) 19 = .ok (.ireturn, 1) ∧ mR 87 = (some .boolean) := by decide +kernel
-- 88: ChairPast$Room.seatGuest:(II)V, locals 3
theorem l88 : mL 88 = 3 := by decide +kernel
theorem k88_0 : decode (mB 88) 0 = .ok (.aload_n 0, 1) := by decide +kernel
theorem k88_1 : decode (mB 88) 1 = .ok (.iload_n 1, 1) := by decide +kernel
theorem k88_2 : decode (mB 88) 2 = .ok (.iload_n 2, 1) := by decide +kernel
theorem k88_3 : decode (mB 88) 3 = .ok (.aload_n 0, 1) := by decide +kernel
theorem k88_4 : decode (mB 88) 4 = .ok (.getfield 11, 3) ∧ tF (mO 88) 11 = some (8, 1, 1, 1) := by decide +kernel
theorem k88_7 : decode (mB 88) 7 = .ok (.iload_n 2, 1) := by decide +kernel
theorem k88_8 : decode (mB 88) 8 = .ok (.aaload, 1) := by decide +kernel
theorem k88_9 : decode (mB 88) 9 = .ok (.aload_n 0, 1) := by decide +kernel
theorem k88_10 : decode (mB 88) 10 = .ok (.getfield 17, 3) ∧ tF (mO 88) 17 = some (8, 2, 1, 1) := by decide +kernel
theorem k88_13 : decode (mB 88) 13 = .ok (.iload_n 1, 1) := by decide +kernel
theorem k88_14 : decode (mB 88) 14 = .ok (.iaload, 1) := by decide +kernel
theorem k88_15 : decode (mB 88) 15 = .ok (.aload_n 0, 1) := by decide +kernel
theorem k88_16 : decode (mB 88) 16 = .ok (.getfield 21, 3) ∧ tF (mO 88) 21 = some (8, 3, 1, 1) := by decide +kernel
theorem k88_19 : decode (mB 88) 19 = .ok (.iload_n 1, 1) := by decide +kernel
theorem k88_20 : decode (mB 88) 20 = .ok (.iaload, 1) := by decide +kernel
theorem k88_21 : decode (mB 88) 21 = .ok (.invokevirtual 67, 3) ∧ tVn (mO 88) 67 = some 2 ∧ tV (mO 88) 67 1 = some 8 := by decide +kernel
theorem k88_24 : decode (mB 88) 24 = .ok (.invokevirtual 71, 3) ∧ tVn (mO 88) 71 = some 3 ∧ tV (mO 88) 71 8 = some 89 := by decide +kernel
theorem k88_27 : decode (mB 88) 27 = .ok (.return_, 1) ∧ mR 88 = none := by decide +kernel
-- 89: ChairPast$Room.putGuest:(III)V, locals 4
theorem l89 : mL 89 = 4 := by decide +kernel
theorem k89_0 : decode (mB 89) 0 = .ok (.aload_n 0, 1) := by decide +kernel
theorem k89_1 : decode (mB 89) 1 = .ok (.getfield 24, 3) ∧ tF (mO 89) 24 = some (8, 4, 1, 1) := by decide +kernel
theorem k89_4 : decode (mB 89) 4 = .ok (.iload_n 1, 1) := by decide +kernel
theorem k89_5 : decode (mB 89) 5 = .ok (.iload_n 2, 1) := by decide +kernel
theorem k89_6 : decode (mB 89) 6 = .ok (.iastore, 1) := by decide +kernel
theorem k89_7 : decode (mB 89) 7 = .ok (.aload_n 0, 1) := by decide +kernel
theorem k89_8 : decode (mB 89) 8 = .ok (.getfield 27, 3) ∧ tF (mO 89) 27 = some (8, 5, 1, 1) := by decide +kernel
theorem k89_11 : decode (mB 89) 11 = .ok (.iload_n 1, 1) := by decide +kernel
theorem k89_12 : decode (mB 89) 12 = .ok (.iload_n 3, 1) := by decide +kernel
theorem k89_13 : decode (mB 89) 13 = .ok (.iastore, 1) := by decide +kernel
theorem k89_14 : decode (mB 89) 14 = .ok (.aload_n 0, 1) := by decide +kernel
theorem k89_15 : decode (mB 89) 15 = .ok (.getfield 11, 3) ∧ tF (mO 89) 11 = some (8, 1, 1, 1) := by decide +kernel
theorem k89_18 : decode (mB 89) 18 = .ok (.iload_n 2, 1) := by decide +kernel
theorem k89_19 : decode (mB 89) 19 = .ok (.aaload, 1) := by decide +kernel
theorem k89_20 : decode (mB 89) 20 = .ok (.iload_n 1, 1) := by decide +kernel
theorem k89_21 : decode (mB 89) 21 = .ok (.putfield 64, 3) ∧ tF (mO 89) 64 = some (1, 5, 0, 0) := by decide +kernel
theorem k89_24 : decode (mB 89) 24 = .ok (.return_, 1) ∧ mR 89 = none := by decide +kernel
-- 90: ChairPast$Room.liftGuest:(I)V, locals 2
theorem l90 : mL 90 = 2 := by decide +kernel
theorem k90_0 : decode (mB 90) 0 = .ok (.aload_n 0, 1) := by decide +kernel
theorem k90_1 : decode (mB 90) 1 = .ok (.aload_n 0, 1) := by decide +kernel
theorem k90_2 : decode (mB 90) 2 = .ok (.getfield 24, 3) ∧ tF (mO 90) 24 = some (8, 4, 1, 1) := by decide +kernel
theorem k90_5 : decode (mB 90) 5 = .ok (.iload_n 1, 1) := by decide +kernel
theorem k90_6 : decode (mB 90) 6 = .ok (.iaload, 1) := by decide +kernel
theorem k90_7 : decode (mB 90) 7 = .ok (.invokevirtual 75, 3) ∧ tVn (mO 90) 75 = some 1 ∧ tV (mO 90) 75 8 = some 84 := by decide +kernel
theorem k90_10 : decode (mB 90) 10 = .ok (.ifCond .eq 19, 3) := by decide +kernel
theorem k90_13 : decode (mB 90) 13 = .ok (.aload_n 0, 1) := by decide +kernel
theorem k90_14 : decode (mB 90) 14 = .ok (.getfield 11, 3) ∧ tF (mO 90) 11 = some (8, 1, 1, 1) := by decide +kernel
theorem k90_17 : decode (mB 90) 17 = .ok (.aload_n 0, 1) := by decide +kernel
theorem k90_18 : decode (mB 90) 18 = .ok (.getfield 24, 3) ∧ tF (mO 90) 24 = some (8, 4, 1, 1) := by decide +kernel
theorem k90_21 : decode (mB 90) 21 = .ok (.iload_n 1, 1) := by decide +kernel
theorem k90_22 : decode (mB 90) 22 = .ok (.iaload, 1) := by decide +kernel
theorem k90_23 : decode (mB 90) 23 = .ok (.aaload, 1) := by decide +kernel
theorem k90_24 : decode (mB 90) 24 = .ok (.ldc 63, 2) ∧ tK (mO 90) 63 = some (-1000000) := by decide +kernel
theorem k90_26 : decode (mB 90) 26 = .ok (.putfield 64, 3) ∧ tF (mO 90) 64 = some (1, 5, 0, 0) := by decide +kernel
theorem k90_29 : decode (mB 90) 29 = .ok (.aload_n 0, 1) := by decide +kernel
theorem k90_30 : decode (mB 90) 30 = .ok (.getfield 24, 3) ∧ tF (mO 90) 24 = some (8, 4, 1, 1) := by decide +kernel
theorem k90_33 : decode (mB 90) 33 = .ok (.iload_n 1, 1) := by decide +kernel
theorem k90_34 : decode (mB 90) 34 = .ok (.ldc 63, 2) ∧ tK (mO 90) 63 = some (-1000000) := by decide +kernel
theorem k90_36 : decode (mB 90) 36 = .ok (.iastore, 1) := by decide +kernel
theorem k90_37 : decode (mB 90) 37 = .ok (.aload_n 0, 1) := by decide +kernel
theorem k90_38 : decode (mB 90) 38 = .ok (.getfield 27, 3) ∧ tF (mO 90) 27 = some (8, 5, 1, 1) := by decide +kernel
theorem k90_41 : decode (mB 90) 41 = .ok (.iload_n 1, 1) := by decide +kernel
theorem k90_42 : decode (mB 90) 42 = .ok (.ldc 63, 2) ∧ tK (mO 90) 63 = some (-1000000) := by decide +kernel
theorem k90_44 : decode (mB 90) 44 = .ok (.iastore, 1) := by decide +kernel
theorem k90_45 : decode (mB 90) 45 = .ok (.return_, 1) ∧ mR 90 = none := by decide +kernel
-- 91: ChairPast$Room.swapWithNext:(I)V, locals 4
theorem l91 : mL 91 = 4 := by decide +kernel
theorem k91_0 : decode (mB 91) 0 = .ok (.aload_n 0, 1) := by decide +kernel
theorem k91_1 : decode (mB 91) 1 = .ok (.getfield 11, 3) ∧ tF (mO 91) 11 = some (8, 1, 1, 1) := by decide +kernel
theorem k91_4 : decode (mB 91) 4 = .ok (.iload_n 1, 1) := by decide +kernel
theorem k91_5 : decode (mB 91) 5 = .ok (.aaload, 1) := by decide +kernel
theorem k91_6 : decode (mB 91) 6 = .ok (.astore_n 2, 1) := by decide +kernel
theorem k91_7 : decode (mB 91) 7 = .ok (.aload_n 0, 1) := by decide +kernel
theorem k91_8 : decode (mB 91) 8 = .ok (.getfield 11, 3) ∧ tF (mO 91) 11 = some (8, 1, 1, 1) := by decide +kernel
theorem k91_11 : decode (mB 91) 11 = .ok (.iload_n 1, 1) := by decide +kernel
theorem k91_12 : decode (mB 91) 12 = .ok (.aload_n 0, 1) := by decide +kernel
theorem k91_13 : decode (mB 91) 13 = .ok (.getfield 11, 3) ∧ tF (mO 91) 11 = some (8, 1, 1, 1) := by decide +kernel
theorem k91_16 : decode (mB 91) 16 = .ok (.iload_n 1, 1) := by decide +kernel
theorem k91_17 : decode (mB 91) 17 = .ok (.iconst 1, 1) := by decide +kernel
theorem k91_18 : decode (mB 91) 18 = .ok (.iadd, 1) := by decide +kernel
theorem k91_19 : decode (mB 91) 19 = .ok (.aaload, 1) := by decide +kernel
theorem k91_20 : decode (mB 91) 20 = .ok (.aastore, 1) := by decide +kernel
theorem k91_21 : decode (mB 91) 21 = .ok (.aload_n 0, 1) := by decide +kernel
theorem k91_22 : decode (mB 91) 22 = .ok (.getfield 11, 3) ∧ tF (mO 91) 11 = some (8, 1, 1, 1) := by decide +kernel
theorem k91_25 : decode (mB 91) 25 = .ok (.iload_n 1, 1) := by decide +kernel
theorem k91_26 : decode (mB 91) 26 = .ok (.iconst 1, 1) := by decide +kernel
theorem k91_27 : decode (mB 91) 27 = .ok (.iadd, 1) := by decide +kernel
theorem k91_28 : decode (mB 91) 28 = .ok (.aload_n 2, 1) := by decide +kernel
theorem k91_29 : decode (mB 91) 29 = .ok (.aastore, 1) := by decide +kernel
theorem k91_30 : decode (mB 91) 30 = .ok (.iload_n 1, 1) := by decide +kernel
theorem k91_31 : decode (mB 91) 31 = .ok (.istore_n 3, 1) := by decide +kernel
theorem k91_32 : decode (mB 91) 32 = .ok (.iload_n 3, 1) := by decide +kernel
theorem k91_33 : decode (mB 91) 33 = .ok (.iload_n 1, 1) := by decide +kernel
theorem k91_34 : decode (mB 91) 34 = .ok (.iconst 1, 1) := by decide +kernel
theorem k91_35 : decode (mB 91) 35 = .ok (.iadd, 1) := by decide +kernel
theorem k91_36 : decode (mB 91) 36 = .ok (.if_icmp .gt 40, 3) := by decide +kernel
theorem k91_39 : decode (mB 91) 39 = .ok (.aload_n 0, 1) := by decide +kernel
theorem k91_40 : decode (mB 91) 40 = .ok (.aload_n 0, 1) := by decide +kernel
theorem k91_41 : decode (mB 91) 41 = .ok (.getfield 11, 3) ∧ tF (mO 91) 11 = some (8, 1, 1, 1) := by decide +kernel
theorem k91_44 : decode (mB 91) 44 = .ok (.iload_n 3, 1) := by decide +kernel
theorem k91_45 : decode (mB 91) 45 = .ok (.aaload, 1) := by decide +kernel
theorem k91_46 : decode (mB 91) 46 = .ok (.getfield 64, 3) ∧ tF (mO 91) 64 = some (1, 5, 0, 0) := by decide +kernel
theorem k91_49 : decode (mB 91) 49 = .ok (.invokevirtual 79, 3) ∧ tVn (mO 91) 79 = some 1 ∧ tV (mO 91) 79 8 = some 85 := by decide +kernel
theorem k91_52 : decode (mB 91) 52 = .ok (.ifCond .eq 18, 3) := by decide +kernel
theorem k91_55 : decode (mB 91) 55 = .ok (.aload_n 0, 1) := by decide +kernel
theorem k91_56 : decode (mB 91) 56 = .ok (.getfield 24, 3) ∧ tF (mO 91) 24 = some (8, 4, 1, 1) := by decide +kernel
theorem k91_59 : decode (mB 91) 59 = .ok (.aload_n 0, 1) := by decide +kernel
theorem k91_60 : decode (mB 91) 60 = .ok (.getfield 11, 3) ∧ tF (mO 91) 11 = some (8, 1, 1, 1) := by decide +kernel
theorem k91_63 : decode (mB 91) 63 = .ok (.iload_n 3, 1) := by decide +kernel
theorem k91_64 : decode (mB 91) 64 = .ok (.aaload, 1) := by decide +kernel
theorem k91_65 : decode (mB 91) 65 = .ok (.getfield 64, 3) ∧ tF (mO 91) 64 = some (1, 5, 0, 0) := by decide +kernel
theorem k91_68 : decode (mB 91) 68 = .ok (.iload_n 3, 1) := by decide +kernel
theorem k91_69 : decode (mB 91) 69 = .ok (.iastore, 1) := by decide +kernel
theorem k91_70 : decode (mB 91) 70 = .ok (.iinc 3 1, 3) := by decide +kernel
theorem k91_73 : decode (mB 91) 73 = .ok (.goto (-41), 3) := by decide +kernel
theorem k91_76 : decode (mB 91) 76 = .ok (.return_, 1) ∧ mR 91 = none := by decide +kernel
-- 92: ChairPast$Room.peaceNow:()I, locals 3
theorem l92 : mL 92 = 3 := by decide +kernel
theorem k92_0 : decode (mB 92) 0 = .ok (.iconst 0, 1) := by decide +kernel
theorem k92_1 : decode (mB 92) 1 = .ok (.istore_n 1, 1) := by decide +kernel
theorem k92_2 : decode (mB 92) 2 = .ok (.iconst 0, 1) := by decide +kernel
theorem k92_3 : decode (mB 92) 3 = .ok (.istore_n 2, 1) := by decide +kernel
theorem k92_4 : decode (mB 92) 4 = .ok (.iload_n 2, 1) := by decide +kernel
theorem k92_5 : decode (mB 92) 5 = .ok (.iconst 1, 1) := by decide +kernel
theorem k92_6 : decode (mB 92) 6 = .ok (.iadd, 1) := by decide +kernel
theorem k92_7 : decode (mB 92) 7 = .ok (.aload_n 0, 1) := by decide +kernel
theorem k92_8 : decode (mB 92) 8 = .ok (.getfield 37, 3) ∧ tF (mO 92) 37 = some (8, 6, 0, 0) := by decide +kernel
theorem k92_11 : decode (mB 92) 11 = .ok (.if_icmp .ge 17, 3) := by decide +kernel
theorem k92_14 : decode (mB 92) 14 = .ok (.iload_n 1, 1) := by decide +kernel
theorem k92_15 : decode (mB 92) 15 = .ok (.aload_n 0, 1) := by decide +kernel
theorem k92_16 : decode (mB 92) 16 = .ok (.iload_n 2, 1) := by decide +kernel
theorem k92_17 : decode (mB 92) 17 = .ok (.invokevirtual 82, 3) ∧ tVn (mO 92) 82 = some 1 ∧ tV (mO 92) 82 8 = some 93 := by decide +kernel
theorem k92_20 : decode (mB 92) 20 = .ok (.iadd, 1) := by decide +kernel
theorem k92_21 : decode (mB 92) 21 = .ok (.istore_n 1, 1) := by decide +kernel
theorem k92_22 : decode (mB 92) 22 = .ok (.iinc 2 1, 3) := by decide +kernel
theorem k92_25 : decode (mB 92) 25 = .ok (.goto (-21), 3) := by decide +kernel
theorem k92_28 : decode (mB 92) 28 = .ok (.iconst 0, 1) := by decide +kernel
theorem k92_29 : decode (mB 92) 29 = .ok (.istore_n 2, 1) := by decide +kernel
theorem k92_30 : decode (mB 92) 30 = .ok (.iload_n 2, 1) := by decide +kernel
theorem k92_31 : decode (mB 92) 31 = .ok (.iconst 2, 1) := by decide +kernel
theorem k92_32 : decode (mB 92) 32 = .ok (.iadd, 1) := by decide +kernel
theorem k92_33 : decode (mB 92) 33 = .ok (.aload_n 0, 1) := by decide +kernel
theorem k92_34 : decode (mB 92) 34 = .ok (.getfield 37, 3) ∧ tF (mO 92) 37 = some (8, 6, 0, 0) := by decide +kernel
theorem k92_37 : decode (mB 92) 37 = .ok (.if_icmp .ge 52, 3) := by decide +kernel
theorem k92_40 : decode (mB 92) 40 = .ok (.aload_n 0, 1) := by decide +kernel
theorem k92_41 : decode (mB 92) 41 = .ok (.iload_n 2, 1) := by decide +kernel
theorem k92_42 : decode (mB 92) 42 = .ok (.invokevirtual 86, 3) ∧ tVn (mO 92) 86 = some 1 ∧ tV (mO 92) 86 8 = some 94 := by decide +kernel
theorem k92_45 : decode (mB 92) 45 = .ok (.ifCond .eq 38, 3) := by decide +kernel
theorem k92_48 : decode (mB 92) 48 = .ok (.aload_n 0, 1) := by decide +kernel
theorem k92_49 : decode (mB 92) 49 = .ok (.iload_n 2, 1) := by decide +kernel
theorem k92_50 : decode (mB 92) 50 = .ok (.invokevirtual 89, 3) ∧ tVn (mO 92) 89 = some 1 ∧ tV (mO 92) 89 8 = some 87 := by decide +kernel
theorem k92_53 : decode (mB 92) 53 = .ok (.ifCond .eq 30, 3) := by decide +kernel
theorem k92_56 : decode (mB 92) 56 = .ok (.aload_n 0, 1) := by decide +kernel
theorem k92_57 : decode (mB 92) 57 = .ok (.iload_n 2, 1) := by decide +kernel
theorem k92_58 : decode (mB 92) 58 = .ok (.iconst 1, 1) := by decide +kernel
theorem k92_59 : decode (mB 92) 59 = .ok (.iadd, 1) := by decide +kernel
theorem k92_60 : decode (mB 92) 60 = .ok (.invokevirtual 89, 3) ∧ tVn (mO 92) 89 = some 1 ∧ tV (mO 92) 89 8 = some 87 := by decide +kernel
theorem k92_63 : decode (mB 92) 63 = .ok (.ifCond .eq 20, 3) := by decide +kernel
theorem k92_66 : decode (mB 92) 66 = .ok (.aload_n 0, 1) := by decide +kernel
theorem k92_67 : decode (mB 92) 67 = .ok (.iload_n 2, 1) := by decide +kernel
theorem k92_68 : decode (mB 92) 68 = .ok (.iconst 2, 1) := by decide +kernel
theorem k92_69 : decode (mB 92) 69 = .ok (.iadd, 1) := by decide +kernel
theorem k92_70 : decode (mB 92) 70 = .ok (.invokevirtual 89, 3) ∧ tVn (mO 92) 89 = some 1 ∧ tV (mO 92) 89 8 = some 87 := by decide +kernel
theorem k92_73 : decode (mB 92) 73 = .ok (.ifCond .eq 10, 3) := by decide +kernel
theorem k92_76 : decode (mB 92) 76 = .ok (.iload_n 1, 1) := by decide +kernel
theorem k92_77 : decode (mB 92) 77 = .ok (.aload_n 0, 1) := by decide +kernel
theorem k92_78 : decode (mB 92) 78 = .ok (.getfield 44, 3) ∧ tF (mO 92) 44 = some (8, 8, 0, 0) := by decide +kernel
theorem k92_81 : decode (mB 92) 81 = .ok (.isub, 1) := by decide +kernel
theorem k92_82 : decode (mB 92) 82 = .ok (.istore_n 1, 1) := by decide +kernel
theorem k92_83 : decode (mB 92) 83 = .ok (.iinc 2 1, 3) := by decide +kernel
theorem k92_86 : decode (mB 92) 86 = .ok (.goto (-56), 3) := by decide +kernel
theorem k92_89 : decode (mB 92) 89 = .ok (.iload_n 1, 1) := by decide +kernel
theorem k92_90 : decode (mB 92) 90 = .ok (.ireturn, 1) ∧ mR 92 = (some .int) := by decide +kernel
end
section
-- 93: ChairPast$Room.peaceBehind:(I)I, locals 4
theorem l93 : mL 93 = 4 := by decide +kernel
theorem k93_0 : decode (mB 93) 0 = .ok (.aload_n 0, 1) := by decide +kernel
theorem k93_1 : decode (mB 93) 1 = .ok (.getfield 11, 3) ∧ tF (mO 93) 11 = some (8, 1, 1, 1) := by decide +kernel
theorem k93_4 : decode (mB 93) 4 = .ok (.iload_n 1, 1) := by decide +kernel
theorem k93_5 : decode (mB 93) 5 = .ok (.aaload, 1) := by decide +kernel
theorem k93_6 : decode (mB 93) 6 = .ok (.getfield 64, 3) ∧ tF (mO 93) 64 = some (1, 5, 0, 0) := by decide +kernel
theorem k93_9 : decode (mB 93) 9 = .ok (.istore_n 2, 1) := by decide +kernel
theorem k93_10 : decode (mB 93) 10 = .ok (.aload_n 0, 1) := by decide +kernel
theorem k93_11 : decode (mB 93) 11 = .ok (.getfield 11, 3) ∧ tF (mO 93) 11 = some (8, 1, 1, 1) := by decide +kernel
theorem k93_14 : decode (mB 93) 14 = .ok (.iload_n 1, 1) := by decide +kernel
theorem k93_15 : decode (mB 93) 15 = .ok (.iconst 1, 1) := by decide +kernel
theorem k93_16 : decode (mB 93) 16 = .ok (.iadd, 1) := by decide +kernel
theorem k93_17 : decode (mB 93) 17 = .ok (.aaload, 1) := by decide +kernel
theorem k93_18 : decode (mB 93) 18 = .ok (.getfield 64, 3) ∧ tF (mO 93) 64 = some (1, 5, 0, 0) := by decide +kernel
theorem k93_21 : decode (mB 93) 21 = .ok (.istore_n 3, 1) := by decide +kernel
theorem k93_22 : decode (mB 93) 22 = .ok (.aload_n 0, 1) := by decide +kernel
theorem k93_23 : decode (mB 93) 23 = .ok (.iload_n 2, 1) := by decide +kernel
theorem k93_24 : decode (mB 93) 24 = .ok (.invokevirtual 79, 3) ∧ tVn (mO 93) 79 = some 1 ∧ tV (mO 93) 79 8 = some 85 := by decide +kernel
theorem k93_27 : decode (mB 93) 27 = .ok (.ifCond .eq 11, 3) := by decide +kernel
theorem k93_30 : decode (mB 93) 30 = .ok (.aload_n 0, 1) := by decide +kernel
theorem k93_31 : decode (mB 93) 31 = .ok (.iload_n 3, 1) := by decide +kernel
theorem k93_32 : decode (mB 93) 32 = .ok (.invokevirtual 79, 3) ∧ tVn (mO 93) 79 = some 1 ∧ tV (mO 93) 79 8 = some 85 := by decide +kernel
theorem k93_35 : decode (mB 93) 35 = .ok (.ifCond .ne 5, 3) := by decide +kernel
theorem k93_38 : decode (mB 93) 38 = .ok (.iconst 0, 1) := by decide +kernel
theorem k93_39 : decode (mB 93) 39 = .ok (.ireturn, 1) ∧ mR 93 = (some .int) := by decide +kernel
theorem k93_40 : decode (mB 93) 40 = .ok (.bipush 10, 2) := by decide +kernel
theorem k93_42 : decode (mB 93) 42 = .ok (.aload_n 0, 1) := by decide +kernel
theorem k93_43 : decode (mB 93) 43 = .ok (.getfield 27, 3) ∧ tF (mO 93) 27 = some (8, 5, 1, 1) := by decide +kernel
theorem k93_46 : decode (mB 93) 46 = .ok (.iload_n 2, 1) := by decide +kernel
theorem k93_47 : decode (mB 93) 47 = .ok (.iaload, 1) := by decide +kernel
theorem k93_48 : decode (mB 93) 48 = .ok (.aload_n 0, 1) := by decide +kernel
theorem k93_49 : decode (mB 93) 49 = .ok (.getfield 27, 3) ∧ tF (mO 93) 27 = some (8, 5, 1, 1) := by decide +kernel
theorem k93_52 : decode (mB 93) 52 = .ok (.iload_n 3, 1) := by decide +kernel
theorem k93_53 : decode (mB 93) 53 = .ok (.iaload, 1) := by decide +kernel
theorem k93_54 : decode (mB 93) 54 = .ok (.isub, 1) := by decide +kernel
theorem k93_55 : decode (mB 93) 55 = .ok (.invokestatic 92, 3) ∧ tM (mO 93) 92 = some 2 := by decide +kernel
theorem k93_58 : decode (mB 93) 58 = .ok (.isub, 1) := by decide +kernel
theorem k93_59 : decode (mB 93) 59 = .ok (.ireturn, 1) ∧ mR 93 = (some .int) := by decide +kernel
-- 94: ChairPast$Room.isTrio:(I)Z, locals 3
theorem l94 : mL 94 = 3 := by decide +kernel
theorem k94_0 : decode (mB 94) 0 = .ok (.aload_n 0, 1) := by decide +kernel
theorem k94_1 : decode (mB 94) 1 = .ok (.getfield 11, 3) ∧ tF (mO 94) 11 = some (8, 1, 1, 1) := by decide +kernel
theorem k94_4 : decode (mB 94) 4 = .ok (.iload_n 1, 1) := by decide +kernel
theorem k94_5 : decode (mB 94) 5 = .ok (.aaload, 1) := by decide +kernel
theorem k94_6 : decode (mB 94) 6 = .ok (.getfield 57, 3) ∧ tF (mO 94) 57 = some (1, 3, 0, 0) := by decide +kernel
theorem k94_9 : decode (mB 94) 9 = .ok (.istore_n 2, 1) := by decide +kernel
theorem k94_10 : decode (mB 94) 10 = .ok (.aload_n 0, 1) := by decide +kernel
theorem k94_11 : decode (mB 94) 11 = .ok (.getfield 11, 3) ∧ tF (mO 94) 11 = some (8, 1, 1, 1) := by decide +kernel
theorem k94_14 : decode (mB 94) 14 = .ok (.iload_n 1, 1) := by decide +kernel
theorem k94_15 : decode (mB 94) 15 = .ok (.iconst 1, 1) := by decide +kernel
theorem k94_16 : decode (mB 94) 16 = .ok (.iadd, 1) := by decide +kernel
theorem k94_17 : decode (mB 94) 17 = .ok (.aaload, 1) := by decide +kernel
theorem k94_18 : decode (mB 94) 18 = .ok (.getfield 57, 3) ∧ tF (mO 94) 57 = some (1, 3, 0, 0) := by decide +kernel
theorem k94_21 : decode (mB 94) 21 = .ok (.iload_n 2, 1) := by decide +kernel
theorem k94_22 : decode (mB 94) 22 = .ok (.if_icmp .ne 22, 3) := by decide +kernel
theorem k94_25 : decode (mB 94) 25 = .ok (.aload_n 0, 1) := by decide +kernel
theorem k94_26 : decode (mB 94) 26 = .ok (.getfield 11, 3) ∧ tF (mO 94) 11 = some (8, 1, 1, 1) := by decide +kernel
theorem k94_29 : decode (mB 94) 29 = .ok (.iload_n 1, 1) := by decide +kernel
theorem k94_30 : decode (mB 94) 30 = .ok (.iconst 2, 1) := by decide +kernel
theorem k94_31 : decode (mB 94) 31 = .ok (.iadd, 1) := by decide +kernel
theorem k94_32 : decode (mB 94) 32 = .ok (.aaload, 1) := by decide +kernel
theorem k94_33 : decode (mB 94) 33 = .ok (.getfield 57, 3) ∧ tF (mO 94) 57 = some (1, 3, 0, 0) := by decide +kernel
theorem k94_36 : decode (mB 94) 36 = .ok (.iload_n 2, 1) := by decide +kernel
theorem k94_37 : decode (mB 94) 37 = .ok (.if_icmp .ne 7, 3) := by decide +kernel
theorem k94_40 : decode (mB 94) 40 = .ok (.iconst 1, 1) := by decide +kernel
theorem k94_41 : decode (mB 94) 41 = .ok (.goto 4, 3) := by decide +kernel
theorem k94_44 : decode (mB 94) 44 = .ok (.iconst 0, 1) := by decide +kernel
theorem k94_45 : decode (mB 94) 45 = .ok (.ireturn, 1) ∧ mR 94 = (some .boolean) := by decide +kernel
-- 95: ChairPast$Room.trioCount:()I, locals 3
theorem l95 : mL 95 = 3 := by decide +kernel
theorem k95_0 : decode (mB 95) 0 = .ok (.iconst 0, 1) := by decide +kernel
theorem k95_1 : decode (mB 95) 1 = .ok (.istore_n 1, 1) := by decide +kernel
theorem k95_2 : decode (mB 95) 2 = .ok (.iconst 0, 1) := by decide +kernel
theorem k95_3 : decode (mB 95) 3 = .ok (.istore_n 2, 1) := by decide +kernel
theorem k95_4 : decode (mB 95) 4 = .ok (.iload_n 2, 1) := by decide +kernel
theorem k95_5 : decode (mB 95) 5 = .ok (.iconst 2, 1) := by decide +kernel
theorem k95_6 : decode (mB 95) 6 = .ok (.iadd, 1) := by decide +kernel
theorem k95_7 : decode (mB 95) 7 = .ok (.aload_n 0, 1) := by decide +kernel
theorem k95_8 : decode (mB 95) 8 = .ok (.getfield 37, 3) ∧ tF (mO 95) 37 = some (8, 6, 0, 0) := by decide +kernel
theorem k95_11 : decode (mB 95) 11 = .ok (.if_icmp .ge 20, 3) := by decide +kernel
theorem k95_14 : decode (mB 95) 14 = .ok (.aload_n 0, 1) := by decide +kernel
theorem k95_15 : decode (mB 95) 15 = .ok (.iload_n 2, 1) := by decide +kernel
theorem k95_16 : decode (mB 95) 16 = .ok (.invokevirtual 86, 3) ∧ tVn (mO 95) 86 = some 1 ∧ tV (mO 95) 86 8 = some 94 := by decide +kernel
theorem k95_19 : decode (mB 95) 19 = .ok (.ifCond .eq 6, 3) := by decide +kernel
theorem k95_22 : decode (mB 95) 22 = .ok (.iinc 1 1, 3) := by decide +kernel
theorem k95_25 : decode (mB 95) 25 = .ok (.iinc 2 1, 3) := by decide +kernel
theorem k95_28 : decode (mB 95) 28 = .ok (.goto (-24), 3) := by decide +kernel
theorem k95_31 : decode (mB 95) 31 = .ok (.iload_n 1, 1) := by decide +kernel
theorem k95_32 : decode (mB 95) 32 = .ok (.ireturn, 1) ∧ mR 95 = (some .int) := by decide +kernel
-- 96: ChairPast$Room.firstTrio:()I, locals 2
theorem l96 : mL 96 = 2 := by decide +kernel
theorem k96_0 : decode (mB 96) 0 = .ok (.iconst 0, 1) := by decide +kernel
theorem k96_1 : decode (mB 96) 1 = .ok (.istore_n 1, 1) := by decide +kernel
theorem k96_2 : decode (mB 96) 2 = .ok (.iload_n 1, 1) := by decide +kernel
theorem k96_3 : decode (mB 96) 3 = .ok (.iconst 2, 1) := by decide +kernel
theorem k96_4 : decode (mB 96) 4 = .ok (.iadd, 1) := by decide +kernel
theorem k96_5 : decode (mB 96) 5 = .ok (.aload_n 0, 1) := by decide +kernel
theorem k96_6 : decode (mB 96) 6 = .ok (.getfield 37, 3) ∧ tF (mO 96) 37 = some (8, 6, 0, 0) := by decide +kernel
theorem k96_9 : decode (mB 96) 9 = .ok (.if_icmp .ge 19, 3) := by decide +kernel
theorem k96_12 : decode (mB 96) 12 = .ok (.aload_n 0, 1) := by decide +kernel
theorem k96_13 : decode (mB 96) 13 = .ok (.iload_n 1, 1) := by decide +kernel
theorem k96_14 : decode (mB 96) 14 = .ok (.invokevirtual 86, 3) ∧ tVn (mO 96) 86 = some 1 ∧ tV (mO 96) 86 8 = some 94 := by decide +kernel
theorem k96_17 : decode (mB 96) 17 = .ok (.ifCond .eq 5, 3) := by decide +kernel
theorem k96_20 : decode (mB 96) 20 = .ok (.iload_n 1, 1) := by decide +kernel
theorem k96_21 : decode (mB 96) 21 = .ok (.ireturn, 1) ∧ mR 96 = (some .int) := by decide +kernel
theorem k96_22 : decode (mB 96) 22 = .ok (.iinc 1 1, 3) := by decide +kernel
theorem k96_25 : decode (mB 96) 25 = .ok (.goto (-23), 3) := by decide +kernel
theorem k96_28 : decode (mB 96) 28 = .ok (.ldc 63, 2) ∧ tK (mO 96) 63 = some (-1000000) := by decide +kernel
theorem k96_30 : decode (mB 96) 30 = .ok (.ireturn, 1) ∧ mR 96 = (some .int) := by decide +kernel
-- 97: ChairPast$Room.firstFree:()I, locals 2
theorem l97 : mL 97 = 2 := by decide +kernel
theorem k97_0 : decode (mB 97) 0 = .ok (.iconst 0, 1) := by decide +kernel
theorem k97_1 : decode (mB 97) 1 = .ok (.istore_n 1, 1) := by decide +kernel
theorem k97_2 : decode (mB 97) 2 = .ok (.iload_n 1, 1) := by decide +kernel
theorem k97_3 : decode (mB 97) 3 = .ok (.aload_n 0, 1) := by decide +kernel
theorem k97_4 : decode (mB 97) 4 = .ok (.getfield 37, 3) ∧ tF (mO 97) 37 = some (8, 6, 0, 0) := by decide +kernel
theorem k97_7 : decode (mB 97) 7 = .ok (.if_icmp .ge 19, 3) := by decide +kernel
theorem k97_10 : decode (mB 97) 10 = .ok (.aload_n 0, 1) := by decide +kernel
theorem k97_11 : decode (mB 97) 11 = .ok (.iload_n 1, 1) := by decide +kernel
theorem k97_12 : decode (mB 97) 12 = .ok (.invokevirtual 89, 3) ∧ tVn (mO 97) 89 = some 1 ∧ tV (mO 97) 89 8 = some 87 := by decide +kernel
theorem k97_15 : decode (mB 97) 15 = .ok (.ifCond .ne 5, 3) := by decide +kernel
theorem k97_18 : decode (mB 97) 18 = .ok (.iload_n 1, 1) := by decide +kernel
theorem k97_19 : decode (mB 97) 19 = .ok (.ireturn, 1) ∧ mR 97 = (some .int) := by decide +kernel
theorem k97_20 : decode (mB 97) 20 = .ok (.iinc 1 1, 3) := by decide +kernel
theorem k97_23 : decode (mB 97) 23 = .ok (.goto (-21), 3) := by decide +kernel
theorem k97_26 : decode (mB 97) 26 = .ok (.ldc 63, 2) ∧ tK (mO 97) 63 = some (-1000000) := by decide +kernel
theorem k97_28 : decode (mB 97) 28 = .ok (.ireturn, 1) ∧ mR 97 = (some .int) := by decide +kernel
-- 98: ChairPast$Room.seatedGuests:()I, locals 3
theorem l98 : mL 98 = 3 := by decide +kernel
theorem k98_0 : decode (mB 98) 0 = .ok (.iconst 0, 1) := by decide +kernel
theorem k98_1 : decode (mB 98) 1 = .ok (.istore_n 1, 1) := by decide +kernel
theorem k98_2 : decode (mB 98) 2 = .ok (.iconst 0, 1) := by decide +kernel
theorem k98_3 : decode (mB 98) 3 = .ok (.istore_n 2, 1) := by decide +kernel
theorem k98_4 : decode (mB 98) 4 = .ok (.iload_n 2, 1) := by decide +kernel
theorem k98_5 : decode (mB 98) 5 = .ok (.aload_n 0, 1) := by decide +kernel
theorem k98_6 : decode (mB 98) 6 = .ok (.getfield 41, 3) ∧ tF (mO 98) 41 = some (8, 7, 0, 0) := by decide +kernel
theorem k98_9 : decode (mB 98) 9 = .ok (.if_icmp .ge 23, 3) := by decide +kernel
theorem k98_12 : decode (mB 98) 12 = .ok (.aload_n 0, 1) := by decide +kernel
theorem k98_13 : decode (mB 98) 13 = .ok (.iload_n 2, 1) := by decide +kernel
theorem k98_14 : decode (mB 98) 14 = .ok (.invokevirtual 97, 3) ∧ tVn (mO 98) 97 = some 1 ∧ tV (mO 98) 97 8 = some 86 := by decide +kernel
theorem k98_17 : decode (mB 98) 17 = .ok (.ifCond .eq 9, 3) := by decide +kernel
theorem k98_20 : decode (mB 98) 20 = .ok (.iload_n 1, 1) := by decide +kernel
theorem k98_21 : decode (mB 98) 21 = .ok (.iconst 1, 1) := by decide +kernel
theorem k98_22 : decode (mB 98) 22 = .ok (.iload_n 2, 1) := by decide +kernel
theorem k98_23 : decode (mB 98) 23 = .ok (.ishl, 1) := by decide +kernel
theorem k98_24 : decode (mB 98) 24 = .ok (.ior, 1) := by decide +kernel
theorem k98_25 : decode (mB 98) 25 = .ok (.istore_n 1, 1) := by decide +kernel
theorem k98_26 : decode (mB 98) 26 = .ok (.iinc 2 1, 3) := by decide +kernel
theorem k98_29 : decode (mB 98) 29 = .ok (.goto (-25), 3) := by decide +kernel
theorem k98_32 : decode (mB 98) 32 = .ok (.iload_n 1, 1) := by decide +kernel
theorem k98_33 : decode (mB 98) 33 = .ok (.ireturn, 1) ∧ mR 98 = (some .int) := by decide +kernel
-- 99: ChairPast$Room.takenChairs:()I, locals 3
theorem l99 : mL 99 = 3 := by decide +kernel
theorem k99_0 : decode (mB 99) 0 = .ok (.iconst 0, 1) := by decide +kernel
theorem k99_1 : decode (mB 99) 1 = .ok (.istore_n 1, 1) := by decide +kernel
theorem k99_2 : decode (mB 99) 2 = .ok (.iconst 0, 1) := by decide +kernel
theorem k99_3 : decode (mB 99) 3 = .ok (.istore_n 2, 1) := by decide +kernel
theorem k99_4 : decode (mB 99) 4 = .ok (.iload_n 2, 1) := by decide +kernel
theorem k99_5 : decode (mB 99) 5 = .ok (.aload_n 0, 1) := by decide +kernel
theorem k99_6 : decode (mB 99) 6 = .ok (.getfield 37, 3) ∧ tF (mO 99) 37 = some (8, 6, 0, 0) := by decide +kernel
theorem k99_9 : decode (mB 99) 9 = .ok (.if_icmp .ge 23, 3) := by decide +kernel
theorem k99_12 : decode (mB 99) 12 = .ok (.aload_n 0, 1) := by decide +kernel
theorem k99_13 : decode (mB 99) 13 = .ok (.iload_n 2, 1) := by decide +kernel
theorem k99_14 : decode (mB 99) 14 = .ok (.invokevirtual 89, 3) ∧ tVn (mO 99) 89 = some 1 ∧ tV (mO 99) 89 8 = some 87 := by decide +kernel
theorem k99_17 : decode (mB 99) 17 = .ok (.ifCond .eq 9, 3) := by decide +kernel
theorem k99_20 : decode (mB 99) 20 = .ok (.iload_n 1, 1) := by decide +kernel
theorem k99_21 : decode (mB 99) 21 = .ok (.iconst 1, 1) := by decide +kernel
theorem k99_22 : decode (mB 99) 22 = .ok (.iload_n 2, 1) := by decide +kernel
theorem k99_23 : decode (mB 99) 23 = .ok (.ishl, 1) := by decide +kernel
theorem k99_24 : decode (mB 99) 24 = .ok (.ior, 1) := by decide +kernel
theorem k99_25 : decode (mB 99) 25 = .ok (.istore_n 1, 1) := by decide +kernel
theorem k99_26 : decode (mB 99) 26 = .ok (.iinc 2 1, 3) := by decide +kernel
theorem k99_29 : decode (mB 99) 29 = .ok (.goto (-25), 3) := by decide +kernel
theorem k99_32 : decode (mB 99) 32 = .ok (.iload_n 1, 1) := by decide +kernel
theorem k99_33 : decode (mB 99) 33 = .ok (.ireturn, 1) ∧ mR 99 = (some .int) := by decide +kernel
-- 100: ChairPast$Room.allManners:()I, locals 3
theorem l100 : mL 100 = 3 := by decide +kernel
theorem k100_0 : decode (mB 100) 0 = .ok (.iconst 0, 1) := by decide +kernel
theorem k100_1 : decode (mB 100) 1 = .ok (.istore_n 1, 1) := by decide +kernel
theorem k100_2 : decode (mB 100) 2 = .ok (.iconst 0, 1) := by decide +kernel
theorem k100_3 : decode (mB 100) 3 = .ok (.istore_n 2, 1) := by decide +kernel
theorem k100_4 : decode (mB 100) 4 = .ok (.iload_n 2, 1) := by decide +kernel
theorem k100_5 : decode (mB 100) 5 = .ok (.aload_n 0, 1) := by decide +kernel
theorem k100_6 : decode (mB 100) 6 = .ok (.getfield 37, 3) ∧ tF (mO 100) 37 = some (8, 6, 0, 0) := by decide +kernel
theorem k100_9 : decode (mB 100) 9 = .ok (.if_icmp .ge 21, 3) := by decide +kernel
theorem k100_12 : decode (mB 100) 12 = .ok (.iload_n 1, 1) := by decide +kernel
theorem k100_13 : decode (mB 100) 13 = .ok (.aload_n 0, 1) := by decide +kernel
theorem k100_14 : decode (mB 100) 14 = .ok (.getfield 11, 3) ∧ tF (mO 100) 11 = some (8, 1, 1, 1) := by decide +kernel
theorem k100_17 : decode (mB 100) 17 = .ok (.iload_n 2, 1) := by decide +kernel
theorem k100_18 : decode (mB 100) 18 = .ok (.aaload, 1) := by decide +kernel
theorem k100_19 : decode (mB 100) 19 = .ok (.getfield 51, 3) ∧ tF (mO 100) 51 = some (1, 1, 0, 0) := by decide +kernel
theorem k100_22 : decode (mB 100) 22 = .ok (.iadd, 1) := by decide +kernel
theorem k100_23 : decode (mB 100) 23 = .ok (.istore_n 1, 1) := by decide +kernel
theorem k100_24 : decode (mB 100) 24 = .ok (.iinc 2 1, 3) := by decide +kernel
theorem k100_27 : decode (mB 100) 27 = .ok (.goto (-23), 3) := by decide +kernel
theorem k100_30 : decode (mB 100) 30 = .ok (.iload_n 1, 1) := by decide +kernel
theorem k100_31 : decode (mB 100) 31 = .ok (.ireturn, 1) ∧ mR 100 = (some .int) := by decide +kernel
-- 101: ChairPast$Room.writeTo:(LChairPast$Line;)V, locals 3
theorem l101 : mL 101 = 3 := by decide +kernel
theorem k101_0 : decode (mB 101) 0 = .ok (.aload_n 1, 1) := by decide +kernel
theorem k101_1 : decode (mB 101) 1 = .ok (.invokevirtual 100, 3) ∧ tVn (mO 101) 100 = some 0 ∧ tV (mO 101) 100 4 = some 46 := by decide +kernel
theorem k101_4 : decode (mB 101) 4 = .ok (.aload_n 1, 1) := by decide +kernel
theorem k101_5 : decode (mB 101) 5 = .ok (.aload_n 0, 1) := by decide +kernel
theorem k101_6 : decode (mB 101) 6 = .ok (.getfield 37, 3) ∧ tF (mO 101) 37 = some (8, 6, 0, 0) := by decide +kernel
theorem k101_9 : decode (mB 101) 9 = .ok (.invokevirtual 105, 3) ∧ tVn (mO 101) 105 = some 1 ∧ tV (mO 101) 105 4 = some 47 := by decide +kernel
theorem k101_12 : decode (mB 101) 12 = .ok (.pop, 1) := by decide +kernel
theorem k101_13 : decode (mB 101) 13 = .ok (.aload_n 1, 1) := by decide +kernel
theorem k101_14 : decode (mB 101) 14 = .ok (.aload_n 0, 1) := by decide +kernel
theorem k101_15 : decode (mB 101) 15 = .ok (.getfield 41, 3) ∧ tF (mO 101) 41 = some (8, 7, 0, 0) := by decide +kernel
theorem k101_18 : decode (mB 101) 18 = .ok (.invokevirtual 105, 3) ∧ tVn (mO 101) 105 = some 1 ∧ tV (mO 101) 105 4 = some 47 := by decide +kernel
theorem k101_21 : decode (mB 101) 21 = .ok (.pop, 1) := by decide +kernel
theorem k101_22 : decode (mB 101) 22 = .ok (.aload_n 1, 1) := by decide +kernel
theorem k101_23 : decode (mB 101) 23 = .ok (.aload_n 0, 1) := by decide +kernel
theorem k101_24 : decode (mB 101) 24 = .ok (.getfield 44, 3) ∧ tF (mO 101) 44 = some (8, 8, 0, 0) := by decide +kernel
theorem k101_27 : decode (mB 101) 27 = .ok (.invokevirtual 105, 3) ∧ tVn (mO 101) 105 = some 1 ∧ tV (mO 101) 105 4 = some 47 := by decide +kernel
theorem k101_30 : decode (mB 101) 30 = .ok (.pop, 1) := by decide +kernel
theorem k101_31 : decode (mB 101) 31 = .ok (.iconst 0, 1) := by decide +kernel
theorem k101_32 : decode (mB 101) 32 = .ok (.istore_n 2, 1) := by decide +kernel
theorem k101_33 : decode (mB 101) 33 = .ok (.iload_n 2, 1) := by decide +kernel
theorem k101_34 : decode (mB 101) 34 = .ok (.iconst 5, 1) := by decide +kernel
theorem k101_35 : decode (mB 101) 35 = .ok (.if_icmp .ge 19, 3) := by decide +kernel
theorem k101_38 : decode (mB 101) 38 = .ok (.aload_n 0, 1) := by decide +kernel
theorem k101_39 : decode (mB 101) 39 = .ok (.getfield 11, 3) ∧ tF (mO 101) 11 = some (8, 1, 1, 1) := by decide +kernel
theorem k101_42 : decode (mB 101) 42 = .ok (.iload_n 2, 1) := by decide +kernel
theorem k101_43 : decode (mB 101) 43 = .ok (.aaload, 1) := by decide +kernel
theorem k101_44 : decode (mB 101) 44 = .ok (.aload_n 1, 1) := by decide +kernel
theorem k101_45 : decode (mB 101) 45 = .ok (.invokevirtual 108, 3) ∧ tVn (mO 101) 108 = some 1 ∧ tV (mO 101) 108 1 = some 11 := by decide +kernel
theorem k101_48 : decode (mB 101) 48 = .ok (.iinc 2 1, 3) := by decide +kernel
theorem k101_51 : decode (mB 101) 51 = .ok (.goto (-18), 3) := by decide +kernel
theorem k101_54 : decode (mB 101) 54 = .ok (.iconst 0, 1) := by decide +kernel
theorem k101_55 : decode (mB 101) 55 = .ok (.istore_n 2, 1) := by decide +kernel
theorem k101_56 : decode (mB 101) 56 = .ok (.iload_n 2, 1) := by decide +kernel
theorem k101_57 : decode (mB 101) 57 = .ok (.iconst 5, 1) := by decide +kernel
theorem k101_58 : decode (mB 101) 58 = .ok (.if_icmp .ge 53, 3) := by decide +kernel
theorem k101_61 : decode (mB 101) 61 = .ok (.aload_n 1, 1) := by decide +kernel
theorem k101_62 : decode (mB 101) 62 = .ok (.aload_n 0, 1) := by decide +kernel
theorem k101_63 : decode (mB 101) 63 = .ok (.getfield 17, 3) ∧ tF (mO 101) 17 = some (8, 2, 1, 1) := by decide +kernel
theorem k101_66 : decode (mB 101) 66 = .ok (.iload_n 2, 1) := by decide +kernel
theorem k101_67 : decode (mB 101) 67 = .ok (.iaload, 1) := by decide +kernel
theorem k101_68 : decode (mB 101) 68 = .ok (.invokevirtual 105, 3) ∧ tVn (mO 101) 105 = some 1 ∧ tV (mO 101) 105 4 = some 47 := by decide +kernel
theorem k101_71 : decode (mB 101) 71 = .ok (.pop, 1) := by decide +kernel
theorem k101_72 : decode (mB 101) 72 = .ok (.aload_n 1, 1) := by decide +kernel
theorem k101_73 : decode (mB 101) 73 = .ok (.aload_n 0, 1) := by decide +kernel
theorem k101_74 : decode (mB 101) 74 = .ok (.getfield 21, 3) ∧ tF (mO 101) 21 = some (8, 3, 1, 1) := by decide +kernel
theorem k101_77 : decode (mB 101) 77 = .ok (.iload_n 2, 1) := by decide +kernel
theorem k101_78 : decode (mB 101) 78 = .ok (.iaload, 1) := by decide +kernel
theorem k101_79 : decode (mB 101) 79 = .ok (.invokevirtual 105, 3) ∧ tVn (mO 101) 105 = some 1 ∧ tV (mO 101) 105 4 = some 47 := by decide +kernel
theorem k101_82 : decode (mB 101) 82 = .ok (.pop, 1) := by decide +kernel
theorem k101_83 : decode (mB 101) 83 = .ok (.aload_n 1, 1) := by decide +kernel
theorem k101_84 : decode (mB 101) 84 = .ok (.aload_n 0, 1) := by decide +kernel
theorem k101_85 : decode (mB 101) 85 = .ok (.getfield 24, 3) ∧ tF (mO 101) 24 = some (8, 4, 1, 1) := by decide +kernel
theorem k101_88 : decode (mB 101) 88 = .ok (.iload_n 2, 1) := by decide +kernel
theorem k101_89 : decode (mB 101) 89 = .ok (.iaload, 1) := by decide +kernel
theorem k101_90 : decode (mB 101) 90 = .ok (.invokevirtual 105, 3) ∧ tVn (mO 101) 105 = some 1 ∧ tV (mO 101) 105 4 = some 47 := by decide +kernel
theorem k101_93 : decode (mB 101) 93 = .ok (.pop, 1) := by decide +kernel
theorem k101_94 : decode (mB 101) 94 = .ok (.aload_n 1, 1) := by decide +kernel
theorem k101_95 : decode (mB 101) 95 = .ok (.aload_n 0, 1) := by decide +kernel
theorem k101_96 : decode (mB 101) 96 = .ok (.getfield 27, 3) ∧ tF (mO 101) 27 = some (8, 5, 1, 1) := by decide +kernel
theorem k101_99 : decode (mB 101) 99 = .ok (.iload_n 2, 1) := by decide +kernel
theorem k101_100 : decode (mB 101) 100 = .ok (.iaload, 1) := by decide +kernel
theorem k101_101 : decode (mB 101) 101 = .ok (.invokevirtual 105, 3) ∧ tVn (mO 101) 105 = some 1 ∧ tV (mO 101) 105 4 = some 47 := by decide +kernel
theorem k101_104 : decode (mB 101) 104 = .ok (.pop, 1) := by decide +kernel
theorem k101_105 : decode (mB 101) 105 = .ok (.iinc 2 1, 3) := by decide +kernel
theorem k101_108 : decode (mB 101) 108 = .ok (.goto (-52), 3) := by decide +kernel
theorem k101_111 : decode (mB 101) 111 = .ok (.return_, 1) ∧ mR 101 = none := by decide +kernel
-- 102: ChairPast$Room.readFrom:(LChairPast$Line;)V, locals 3
theorem l102 : mL 102 = 3 := by decide +kernel
theorem k102_0 : decode (mB 102) 0 = .ok (.aload_n 1, 1) := by decide +kernel
theorem k102_1 : decode (mB 102) 1 = .ok (.invokevirtual 112, 3) ∧ tVn (mO 102) 112 = some 0 ∧ tV (mO 102) 112 4 = some 50 := by decide +kernel
theorem k102_4 : decode (mB 102) 4 = .ok (.aload_n 0, 1) := by decide +kernel
theorem k102_5 : decode (mB 102) 5 = .ok (.aload_n 1, 1) := by decide +kernel
theorem k102_6 : decode (mB 102) 6 = .ok (.invokevirtual 115, 3) ∧ tVn (mO 102) 115 = some 0 ∧ tV (mO 102) 115 4 = some 51 := by decide +kernel
theorem k102_9 : decode (mB 102) 9 = .ok (.putfield 37, 3) ∧ tF (mO 102) 37 = some (8, 6, 0, 0) := by decide +kernel
theorem k102_12 : decode (mB 102) 12 = .ok (.aload_n 0, 1) := by decide +kernel
theorem k102_13 : decode (mB 102) 13 = .ok (.aload_n 1, 1) := by decide +kernel
theorem k102_14 : decode (mB 102) 14 = .ok (.invokevirtual 115, 3) ∧ tVn (mO 102) 115 = some 0 ∧ tV (mO 102) 115 4 = some 51 := by decide +kernel
theorem k102_17 : decode (mB 102) 17 = .ok (.putfield 41, 3) ∧ tF (mO 102) 41 = some (8, 7, 0, 0) := by decide +kernel
theorem k102_20 : decode (mB 102) 20 = .ok (.aload_n 0, 1) := by decide +kernel
theorem k102_21 : decode (mB 102) 21 = .ok (.aload_n 1, 1) := by decide +kernel
theorem k102_22 : decode (mB 102) 22 = .ok (.invokevirtual 115, 3) ∧ tVn (mO 102) 115 = some 0 ∧ tV (mO 102) 115 4 = some 51 := by decide +kernel
theorem k102_25 : decode (mB 102) 25 = .ok (.putfield 44, 3) ∧ tF (mO 102) 44 = some (8, 8, 0, 0) := by decide +kernel
theorem k102_28 : decode (mB 102) 28 = .ok (.iconst 0, 1) := by decide +kernel
theorem k102_29 : decode (mB 102) 29 = .ok (.istore_n 2, 1) := by decide +kernel
theorem k102_30 : decode (mB 102) 30 = .ok (.iload_n 2, 1) := by decide +kernel
theorem k102_31 : decode (mB 102) 31 = .ok (.iconst 5, 1) := by decide +kernel
theorem k102_32 : decode (mB 102) 32 = .ok (.if_icmp .ge 23, 3) := by decide +kernel
theorem k102_35 : decode (mB 102) 35 = .ok (.aload_n 0, 1) := by decide +kernel
theorem k102_36 : decode (mB 102) 36 = .ok (.getfield 11, 3) ∧ tF (mO 102) 11 = some (8, 1, 1, 1) := by decide +kernel
theorem k102_39 : decode (mB 102) 39 = .ok (.iload_n 2, 1) := by decide +kernel
theorem k102_40 : decode (mB 102) 40 = .ok (.aaload, 1) := by decide +kernel
theorem k102_41 : decode (mB 102) 41 = .ok (.aload_n 1, 1) := by decide +kernel
theorem k102_42 : decode (mB 102) 42 = .ok (.aload_n 0, 1) := by decide +kernel
theorem k102_43 : decode (mB 102) 43 = .ok (.getfield 30, 3) ∧ tF (mO 102) 30 = some (8, 0, 1, 1) := by decide +kernel
theorem k102_46 : decode (mB 102) 46 = .ok (.invokevirtual 119, 3) ∧ tVn (mO 102) 119 = some 2 ∧ tV (mO 102) 119 1 = some 12 := by decide +kernel
theorem k102_49 : decode (mB 102) 49 = .ok (.iinc 2 1, 3) := by decide +kernel
theorem k102_52 : decode (mB 102) 52 = .ok (.goto (-22), 3) := by decide +kernel
theorem k102_55 : decode (mB 102) 55 = .ok (.iconst 0, 1) := by decide +kernel
theorem k102_56 : decode (mB 102) 56 = .ok (.istore_n 2, 1) := by decide +kernel
theorem k102_57 : decode (mB 102) 57 = .ok (.iload_n 2, 1) := by decide +kernel
theorem k102_58 : decode (mB 102) 58 = .ok (.iconst 5, 1) := by decide +kernel
theorem k102_59 : decode (mB 102) 59 = .ok (.if_icmp .ge 49, 3) := by decide +kernel
theorem k102_62 : decode (mB 102) 62 = .ok (.aload_n 0, 1) := by decide +kernel
theorem k102_63 : decode (mB 102) 63 = .ok (.getfield 17, 3) ∧ tF (mO 102) 17 = some (8, 2, 1, 1) := by decide +kernel
theorem k102_66 : decode (mB 102) 66 = .ok (.iload_n 2, 1) := by decide +kernel
theorem k102_67 : decode (mB 102) 67 = .ok (.aload_n 1, 1) := by decide +kernel
theorem k102_68 : decode (mB 102) 68 = .ok (.invokevirtual 115, 3) ∧ tVn (mO 102) 115 = some 0 ∧ tV (mO 102) 115 4 = some 51 := by decide +kernel
theorem k102_71 : decode (mB 102) 71 = .ok (.iastore, 1) := by decide +kernel
theorem k102_72 : decode (mB 102) 72 = .ok (.aload_n 0, 1) := by decide +kernel
theorem k102_73 : decode (mB 102) 73 = .ok (.getfield 21, 3) ∧ tF (mO 102) 21 = some (8, 3, 1, 1) := by decide +kernel
theorem k102_76 : decode (mB 102) 76 = .ok (.iload_n 2, 1) := by decide +kernel
theorem k102_77 : decode (mB 102) 77 = .ok (.aload_n 1, 1) := by decide +kernel
theorem k102_78 : decode (mB 102) 78 = .ok (.invokevirtual 115, 3) ∧ tVn (mO 102) 115 = some 0 ∧ tV (mO 102) 115 4 = some 51 := by decide +kernel
theorem k102_81 : decode (mB 102) 81 = .ok (.iastore, 1) := by decide +kernel
theorem k102_82 : decode (mB 102) 82 = .ok (.aload_n 0, 1) := by decide +kernel
theorem k102_83 : decode (mB 102) 83 = .ok (.getfield 24, 3) ∧ tF (mO 102) 24 = some (8, 4, 1, 1) := by decide +kernel
theorem k102_86 : decode (mB 102) 86 = .ok (.iload_n 2, 1) := by decide +kernel
theorem k102_87 : decode (mB 102) 87 = .ok (.aload_n 1, 1) := by decide +kernel
theorem k102_88 : decode (mB 102) 88 = .ok (.invokevirtual 115, 3) ∧ tVn (mO 102) 115 = some 0 ∧ tV (mO 102) 115 4 = some 51 := by decide +kernel
theorem k102_91 : decode (mB 102) 91 = .ok (.iastore, 1) := by decide +kernel
theorem k102_92 : decode (mB 102) 92 = .ok (.aload_n 0, 1) := by decide +kernel
theorem k102_93 : decode (mB 102) 93 = .ok (.getfield 27, 3) ∧ tF (mO 102) 27 = some (8, 5, 1, 1) := by decide +kernel
theorem k102_96 : decode (mB 102) 96 = .ok (.iload_n 2, 1) := by decide +kernel
theorem k102_97 : decode (mB 102) 97 = .ok (.aload_n 1, 1) := by decide +kernel
theorem k102_98 : decode (mB 102) 98 = .ok (.invokevirtual 115, 3) ∧ tVn (mO 102) 115 = some 0 ∧ tV (mO 102) 115 4 = some 51 := by decide +kernel
theorem k102_101 : decode (mB 102) 101 = .ok (.iastore, 1) := by decide +kernel
theorem k102_102 : decode (mB 102) 102 = .ok (.iinc 2 1, 3) := by decide +kernel
theorem k102_105 : decode (mB 102) 105 = .ok (.goto (-48), 3) := by decide +kernel
theorem k102_108 : decode (mB 102) 108 = .ok (.return_, 1) ∧ mR 102 = none := by decide +kernel
-- 104: ChairPast$Throne.number:()I, locals 1
theorem l104 : mL 104 = 1 := by decide +kernel
theorem k104_0 : decode (mB 104) 0 = .ok (.iconst 4, 1) := by decide +kernel
theorem k104_1 : decode (mB 104) 1 = .ok (.ireturn, 1) ∧ mR 104 = (some .int) := by decide +kernel
-- 105: ChairPast$Throne.bearingOn:(LChairPast$Chair;I)I, locals 3
theorem l105 : mL 105 = 3 := by decide +kernel
theorem k105_0 : decode (mB 105) 0 = .ok (.aload_n 1, 1) := by decide +kernel
theorem k105_1 : decode (mB 105) 1 = .ok (.getfield 7, 3) ∧ tF (mO 105) 7 = some (1, 2, 0, 0) := by decide +kernel
theorem k105_4 : decode (mB 105) 4 = .ok (.ifCond .ne 7, 3) := by decide +kernel
theorem k105_7 : decode (mB 105) 7 = .ok (.iload_n 2, 1) := by decide +kernel
theorem k105_8 : decode (mB 105) 8 = .ok (.goto 7, 3) := by decide +kernel
theorem k105_11 : decode (mB 105) 11 = .ok (.aload_n 1, 1) := by decide +kernel
theorem k105_12 : decode (mB 105) 12 = .ok (.getfield 13, 3) ∧ tF (mO 105) 13 = some (1, 1, 0, 0) := by decide +kernel
theorem k105_15 : decode (mB 105) 15 = .ok (.ireturn, 1) ∧ mR 105 = (some .int) := by decide +kernel
-- 106: ChairPast$Throne.wear:(LChairPast$Chair;)V, locals 2
theorem l106 : mL 106 = 2 := by decide +kernel
theorem k106_0 : decode (mB 106) 0 = .ok (.return_, 1) ∧ mR 106 = none := by decide +kernel
-- 107: ChairPast$Throne.sizeOf:(LChairPast$Chair;LChairPast$Line;)I, locals 3
theorem l107 : mL 107 = 3 := by decide +kernel
theorem k107_0 : decode (mB 107) 0 = .ok (.aload_n 2, 1) := by decide +kernel
theorem k107_1 : decode (mB 107) 1 = .ok (.bipush 13, 2) := by decide +kernel
theorem k107_3 : decode (mB 107) 3 = .ok (.invokevirtual 16, 3) ∧ tVn (mO 107) 16 = some 1 ∧ tV (mO 107) 16 4 = some 47 := by decide +kernel
theorem k107_6 : decode (mB 107) 6 = .ok (.pop, 1) := by decide +kernel
theorem k107_7 : decode (mB 107) 7 = .ok (.aload_n 0, 1) := by decide +kernel
theorem k107_8 : decode (mB 107) 8 = .ok (.aload_n 1, 1) := by decide +kernel
theorem k107_9 : decode (mB 107) 9 = .ok (.aload_n 2, 1) := by decide +kernel
theorem k107_10 : decode (mB 107) 10 = .ok (.invokespecial 22, 3) ∧ tB (mO 107) 22 = false ∧ tI (mO 107) 22 = none ∧ tJ (mO 107) 22 = none ∧ tP (mO 107) 22 = some 43 := by decide +kernel
theorem k107_13 : decode (mB 107) 13 = .ok (.bipush 100, 2) := by decide +kernel
theorem k107_15 : decode (mB 107) 15 = .ok (.isub, 1) := by decide +kernel
theorem k107_16 : decode (mB 107) 16 = .ok (.ireturn, 1) ∧ mR 107 = (some .int) := by decide +kernel
-- 108: ChairPast$Throne.markOf:(LChairPast$Chair;LChairPast$Line;)I, locals 4
theorem l108 : mL 108 = 4 := by decide +kernel
theorem k108_0 : decode (mB 108) 0 = .ok (.aload_n 2, 1) := by decide +kernel
theorem k108_1 : decode (mB 108) 1 = .ok (.bipush 23, 2) := by decide +kernel
theorem k108_3 : decode (mB 108) 3 = .ok (.invokevirtual 16, 3) ∧ tVn (mO 108) 16 = some 1 ∧ tV (mO 108) 16 4 = some 47 := by decide +kernel
theorem k108_6 : decode (mB 108) 6 = .ok (.pop, 1) := by decide +kernel
theorem k108_7 : decode (mB 108) 7 = .ok (.aload_n 0, 1) := by decide +kernel
theorem k108_8 : decode (mB 108) 8 = .ok (.aload_n 1, 1) := by decide +kernel
theorem k108_9 : decode (mB 108) 9 = .ok (.aload_n 2, 1) := by decide +kernel
theorem k108_10 : decode (mB 108) 10 = .ok (.invokespecial 26, 3) ∧ tB (mO 108) 26 = false ∧ tI (mO 108) 26 = none ∧ tJ (mO 108) 26 = none ∧ tP (mO 108) 26 = some 44 := by decide +kernel
theorem k108_13 : decode (mB 108) 13 = .ok (.istore_n 3, 1) := by decide +kernel
theorem k108_14 : decode (mB 108) 14 = .ok (.iload_n 3, 1) := by decide +kernel
theorem k108_15 : decode (mB 108) 15 = .ok (.aload_n 0, 1) := by decide +kernel
theorem k108_16 : decode (mB 108) 16 = .ok (.aload_n 1, 1) := by decide +kernel
theorem k108_17 : decode (mB 108) 17 = .ok (.aload_n 2, 1) := by decide +kernel
theorem k108_18_9 : decode (mB 108) 18 = .ok (.invokevirtual 29, 3) ∧ tVn (mO 108) 29 = some 2 ∧ tV (mO 108) 29 9 = some 107 := by decide +kernel
theorem k108_18_2 : decode (mB 108) 18 = .ok (.invokevirtual 29, 3) ∧ tVn (mO 108) 29 = some 2 ∧ tV (mO 108) 29 2 = some 16 := by decide +kernel
theorem k108_21 : decode (mB 108) 21 = .ok (.isub, 1) := by decide +kernel
theorem k108_22 : decode (mB 108) 22 = .ok (.ireturn, 1) ∧ mR 108 = (some .int) := by decide +kernel
-- 110: ChairPast.row:(III)I, locals 5
theorem l110 : mL 110 = 5 := by decide +kernel
theorem k110_0 : decode (mB 110) 0 = .ok (.iload_n 1, 1) := by decide +kernel
theorem k110_1 : decode (mB 110) 1 = .ok (.invokestatic 74, 3) ∧ tM (mO 110) 74 = none ∧ tS (mO 110) 74 = some 144 := by decide +kernel
theorem k110_4 : decode (mB 110) 4 = .ok (.ifCond .eq 18, 3) := by decide +kernel
theorem k110_7 : decode (mB 110) 7 = .ok (.iload_n 2, 1) := by decide +kernel
theorem k110_8 : decode (mB 110) 8 = .ok (.iconst 0, 1) := by decide +kernel
theorem k110_9 : decode (mB 110) 9 = .ok (.iconst 2, 1) := by decide +kernel
theorem k110_10 : decode (mB 110) 10 = .ok (.invokestatic 78, 3) ∧ tM (mO 110) 78 = none ∧ tS (mO 110) 78 = some 143 := by decide +kernel
theorem k110_13 : decode (mB 110) 13 = .ok (.ifCond .eq 9, 3) := by decide +kernel
theorem k110_16 : decode (mB 110) 16 = .ok (.iload_n 3, 1) := by decide +kernel
theorem k110_17 : decode (mB 110) 17 = .ok (.bipush 40, 2) := by decide +kernel
theorem k110_19 : decode (mB 110) 19 = .ok (.if_icmp .le 6, 3) := by decide +kernel
theorem k110_22 : decode (mB 110) 22 = .ok (.ldc 82, 2) ∧ tK (mO 110) 82 = some (-1000001) := by decide +kernel
theorem k110_24 : decode (mB 110) 24 = .ok (.ireturn, 1) ∧ mR 110 = (some .int) := by decide +kernel
theorem k110_25 : decode (mB 110) 25 = .ok (.iload_n 3, 1) := by decide +kernel
theorem k110_26 : decode (mB 110) 26 = .ok (.ifCond .ge 9, 3) := by decide +kernel
theorem k110_29 : decode (mB 110) 29 = .ok (.aload_n 0, 1) := by decide +kernel
theorem k110_30 : decode (mB 110) 30 = .ok (.iconst 4, 1) := by decide +kernel
theorem k110_31 : decode (mB 110) 31 = .ok (.invokevirtual 83, 3) ∧ tVn (mO 110) 83 = some 1 ∧ tV (mO 110) 83 10 = some 149 := by decide +kernel
theorem k110_34 : decode (mB 110) 34 = .ok (.ireturn, 1) ∧ mR 110 = (some .int) := by decide +kernel
theorem k110_35 : decode (mB 110) 35 = .ok (.aload_n 0, 1) := by decide +kernel
theorem k110_36 : decode (mB 110) 36 = .ok (.getfield 15, 3) ∧ tF (mO 110) 15 = some (10, 1, 1, 1) := by decide +kernel
theorem k110_39 : decode (mB 110) 39 = .ok (.iload_n 1, 1) := by decide +kernel
theorem k110_40 : decode (mB 110) 40 = .ok (.iload_n 2, 1) := by decide +kernel
theorem k110_41 : decode (mB 110) 41 = .ok (.iastore, 1) := by decide +kernel
theorem k110_42 : decode (mB 110) 42 = .ok (.aload_n 0, 1) := by decide +kernel
theorem k110_43 : decode (mB 110) 43 = .ok (.getfield 11, 3) ∧ tF (mO 110) 11 = some (10, 0, 1, 1) := by decide +kernel
theorem k110_46 : decode (mB 110) 46 = .ok (.iload_n 1, 1) := by decide +kernel
theorem k110_47 : decode (mB 110) 47 = .ok (.aaload, 1) := by decide +kernel
theorem k110_48 : decode (mB 110) 48 = .ok (.invokevirtual 87, 3) ∧ tVn (mO 110) 87 = some 0 ∧ tV (mO 110) 87 4 = some 46 := by decide +kernel
theorem k110_51 : decode (mB 110) 51 = .ok (.iconst 0, 1) := by decide +kernel
theorem k110_52 : decode (mB 110) 52 = .ok (.istore 4, 2) := by decide +kernel
theorem k110_54 : decode (mB 110) 54 = .ok (.iload 4, 2) := by decide +kernel
theorem k110_56 : decode (mB 110) 56 = .ok (.iload_n 3, 1) := by decide +kernel
theorem k110_57 : decode (mB 110) 57 = .ok (.if_icmp .ge 20, 3) := by decide +kernel
theorem k110_60 : decode (mB 110) 60 = .ok (.aload_n 0, 1) := by decide +kernel
theorem k110_61 : decode (mB 110) 61 = .ok (.getfield 11, 3) ∧ tF (mO 110) 11 = some (10, 0, 1, 1) := by decide +kernel
theorem k110_64 : decode (mB 110) 64 = .ok (.iload_n 1, 1) := by decide +kernel
theorem k110_65 : decode (mB 110) 65 = .ok (.aaload, 1) := by decide +kernel
theorem k110_66 : decode (mB 110) 66 = .ok (.iconst 0, 1) := by decide +kernel
theorem k110_67 : decode (mB 110) 67 = .ok (.invokevirtual 90, 3) ∧ tVn (mO 110) 90 = some 1 ∧ tV (mO 110) 90 4 = some 47 := by decide +kernel
theorem k110_70 : decode (mB 110) 70 = .ok (.pop, 1) := by decide +kernel
theorem k110_71 : decode (mB 110) 71 = .ok (.iinc 4 1, 3) := by decide +kernel
theorem k110_74 : decode (mB 110) 74 = .ok (.goto (-20), 3) := by decide +kernel
theorem k110_77 : decode (mB 110) 77 = .ok (.aload_n 0, 1) := by decide +kernel
theorem k110_78 : decode (mB 110) 78 = .ok (.iload_n 3, 1) := by decide +kernel
theorem k110_79 : decode (mB 110) 79 = .ok (.invokevirtual 93, 3) ∧ tVn (mO 110) 93 = some 1 ∧ tV (mO 110) 93 10 = some 150 := by decide +kernel
theorem k110_82 : decode (mB 110) 82 = .ok (.ireturn, 1) ∧ mR 110 = (some .int) := by decide +kernel
-- 111: ChairPast.set:(III)I, locals 4
theorem l111 : mL 111 = 4 := by decide +kernel
theorem k111_0 : decode (mB 111) 0 = .ok (.iload_n 1, 1) := by decide +kernel
theorem k111_1 : decode (mB 111) 1 = .ok (.invokestatic 74, 3) ∧ tM (mO 111) 74 = none ∧ tS (mO 111) 74 = some 144 := by decide +kernel
theorem k111_4 : decode (mB 111) 4 = .ok (.ifCond .ne 6, 3) := by decide +kernel
theorem k111_7 : decode (mB 111) 7 = .ok (.ldc 82, 2) ∧ tK (mO 111) 82 = some (-1000001) := by decide +kernel
theorem k111_9 : decode (mB 111) 9 = .ok (.ireturn, 1) ∧ mR 111 = (some .int) := by decide +kernel
theorem k111_10 : decode (mB 111) 10 = .ok (.aload_n 0, 1) := by decide +kernel
theorem k111_11 : decode (mB 111) 11 = .ok (.iload_n 1, 1) := by decide +kernel
theorem k111_12 : decode (mB 111) 12 = .ok (.invokevirtual 96, 3) ∧ tVn (mO 111) 96 = some 1 ∧ tV (mO 111) 96 10 = some 145 := by decide +kernel
theorem k111_15 : decode (mB 111) 15 = .ok (.ifCond .eq 9, 3) := by decide +kernel
theorem k111_18 : decode (mB 111) 18 = .ok (.aload_n 0, 1) := by decide +kernel
theorem k111_19 : decode (mB 111) 19 = .ok (.iconst 1, 1) := by decide +kernel
theorem k111_20 : decode (mB 111) 20 = .ok (.invokevirtual 83, 3) ∧ tVn (mO 111) 83 = some 1 ∧ tV (mO 111) 83 10 = some 149 := by decide +kernel
theorem k111_23 : decode (mB 111) 23 = .ok (.ireturn, 1) ∧ mR 111 = (some .int) := by decide +kernel
theorem k111_24 : decode (mB 111) 24 = .ok (.iload_n 2, 1) := by decide +kernel
theorem k111_25 : decode (mB 111) 25 = .ok (.iconst 0, 1) := by decide +kernel
theorem k111_26 : decode (mB 111) 26 = .ok (.aload_n 0, 1) := by decide +kernel
theorem k111_27 : decode (mB 111) 27 = .ok (.getfield 11, 3) ∧ tF (mO 111) 11 = some (10, 0, 1, 1) := by decide +kernel
theorem k111_30 : decode (mB 111) 30 = .ok (.iload_n 1, 1) := by decide +kernel
theorem k111_31 : decode (mB 111) 31 = .ok (.aaload, 1) := by decide +kernel
theorem k111_32 : decode (mB 111) 32 = .ok (.getfield 99, 3) ∧ tF (mO 111) 99 = some (4, 1, 0, 0) := by decide +kernel
theorem k111_35 : decode (mB 111) 35 = .ok (.iconst 1, 1) := by decide +kernel
theorem k111_36 : decode (mB 111) 36 = .ok (.isub, 1) := by decide +kernel
theorem k111_37 : decode (mB 111) 37 = .ok (.invokestatic 78, 3) ∧ tM (mO 111) 78 = none ∧ tS (mO 111) 78 = some 143 := by decide +kernel
theorem k111_40 : decode (mB 111) 40 = .ok (.ifCond .ne 9, 3) := by decide +kernel
theorem k111_43 : decode (mB 111) 43 = .ok (.aload_n 0, 1) := by decide +kernel
theorem k111_44 : decode (mB 111) 44 = .ok (.iconst 2, 1) := by decide +kernel
theorem k111_45 : decode (mB 111) 45 = .ok (.invokevirtual 83, 3) ∧ tVn (mO 111) 83 = some 1 ∧ tV (mO 111) 83 10 = some 149 := by decide +kernel
theorem k111_48 : decode (mB 111) 48 = .ok (.ireturn, 1) ∧ mR 111 = (some .int) := by decide +kernel
theorem k111_49 : decode (mB 111) 49 = .ok (.aload_n 0, 1) := by decide +kernel
theorem k111_50 : decode (mB 111) 50 = .ok (.getfield 11, 3) ∧ tF (mO 111) 11 = some (10, 0, 1, 1) := by decide +kernel
theorem k111_53 : decode (mB 111) 53 = .ok (.iload_n 1, 1) := by decide +kernel
theorem k111_54 : decode (mB 111) 54 = .ok (.aaload, 1) := by decide +kernel
theorem k111_55 : decode (mB 111) 55 = .ok (.getfield 103, 3) ∧ tF (mO 111) 103 = some (4, 0, 1, 1) := by decide +kernel
theorem k111_58 : decode (mB 111) 58 = .ok (.iload_n 2, 1) := by decide +kernel
theorem k111_59 : decode (mB 111) 59 = .ok (.aload_n 0, 1) := by decide +kernel
theorem k111_60 : decode (mB 111) 60 = .ok (.getfield 15, 3) ∧ tF (mO 111) 15 = some (10, 1, 1, 1) := by decide +kernel
theorem k111_63 : decode (mB 111) 63 = .ok (.iload_n 1, 1) := by decide +kernel
theorem k111_64 : decode (mB 111) 64 = .ok (.iaload, 1) := by decide +kernel
theorem k111_65 : decode (mB 111) 65 = .ok (.iload_n 3, 1) := by decide +kernel
theorem k111_66 : decode (mB 111) 66 = .ok (.invokestatic 106, 3) ∧ tM (mO 111) 106 = none ∧ tS (mO 111) 106 = some 147 := by decide +kernel
theorem k111_69 : decode (mB 111) 69 = .ok (.iastore, 1) := by decide +kernel
theorem k111_70 : decode (mB 111) 70 = .ok (.aload_n 0, 1) := by decide +kernel
theorem k111_71 : decode (mB 111) 71 = .ok (.aload_n 0, 1) := by decide +kernel
theorem k111_72 : decode (mB 111) 72 = .ok (.getfield 11, 3) ∧ tF (mO 111) 11 = some (10, 0, 1, 1) := by decide +kernel
theorem k111_75 : decode (mB 111) 75 = .ok (.iload_n 1, 1) := by decide +kernel
theorem k111_76 : decode (mB 111) 76 = .ok (.aaload, 1) := by decide +kernel
theorem k111_77 : decode (mB 111) 77 = .ok (.getfield 103, 3) ∧ tF (mO 111) 103 = some (4, 0, 1, 1) := by decide +kernel
theorem k111_80 : decode (mB 111) 80 = .ok (.iload_n 2, 1) := by decide +kernel
theorem k111_81 : decode (mB 111) 81 = .ok (.iaload, 1) := by decide +kernel
theorem k111_82 : decode (mB 111) 82 = .ok (.invokevirtual 93, 3) ∧ tVn (mO 111) 93 = some 1 ∧ tV (mO 111) 93 10 = some 150 := by decide +kernel
theorem k111_85 : decode (mB 111) 85 = .ok (.ireturn, 1) ∧ mR 111 = (some .int) := by decide +kernel
-- 112: ChairPast.copy:(IIIII)I, locals 6
theorem l112 : mL 112 = 6 := by decide +kernel
theorem k112_0 : decode (mB 112) 0 = .ok (.iload_n 1, 1) := by decide +kernel
theorem k112_1 : decode (mB 112) 1 = .ok (.invokestatic 74, 3) ∧ tM (mO 112) 74 = none ∧ tS (mO 112) 74 = some 144 := by decide +kernel
theorem k112_4 : decode (mB 112) 4 = .ok (.ifCond .eq 10, 3) := by decide +kernel
theorem k112_7 : decode (mB 112) 7 = .ok (.iload_n 3, 1) := by decide +kernel
theorem k112_8 : decode (mB 112) 8 = .ok (.invokestatic 74, 3) ∧ tM (mO 112) 74 = none ∧ tS (mO 112) 74 = some 144 := by decide +kernel
theorem k112_11 : decode (mB 112) 11 = .ok (.ifCond .ne 6, 3) := by decide +kernel
theorem k112_14 : decode (mB 112) 14 = .ok (.ldc 82, 2) ∧ tK (mO 112) 82 = some (-1000001) := by decide +kernel
theorem k112_16 : decode (mB 112) 16 = .ok (.ireturn, 1) ∧ mR 112 = (some .int) := by decide +kernel
theorem k112_17 : decode (mB 112) 17 = .ok (.aload_n 0, 1) := by decide +kernel
theorem k112_18 : decode (mB 112) 18 = .ok (.iload_n 1, 1) := by decide +kernel
theorem k112_19 : decode (mB 112) 19 = .ok (.invokevirtual 96, 3) ∧ tVn (mO 112) 96 = some 1 ∧ tV (mO 112) 96 10 = some 145 := by decide +kernel
theorem k112_22 : decode (mB 112) 22 = .ok (.ifCond .ne 11, 3) := by decide +kernel
theorem k112_25 : decode (mB 112) 25 = .ok (.aload_n 0, 1) := by decide +kernel
theorem k112_26 : decode (mB 112) 26 = .ok (.iload_n 3, 1) := by decide +kernel
theorem k112_27 : decode (mB 112) 27 = .ok (.invokevirtual 96, 3) ∧ tVn (mO 112) 96 = some 1 ∧ tV (mO 112) 96 10 = some 145 := by decide +kernel
theorem k112_30 : decode (mB 112) 30 = .ok (.ifCond .eq 9, 3) := by decide +kernel
theorem k112_33 : decode (mB 112) 33 = .ok (.aload_n 0, 1) := by decide +kernel
theorem k112_34 : decode (mB 112) 34 = .ok (.iconst 1, 1) := by decide +kernel
theorem k112_35 : decode (mB 112) 35 = .ok (.invokevirtual 83, 3) ∧ tVn (mO 112) 83 = some 1 ∧ tV (mO 112) 83 10 = some 149 := by decide +kernel
theorem k112_38 : decode (mB 112) 38 = .ok (.ireturn, 1) ∧ mR 112 = (some .int) := by decide +kernel
theorem k112_39 : decode (mB 112) 39 = .ok (.aload_n 0, 1) := by decide +kernel
theorem k112_40 : decode (mB 112) 40 = .ok (.getfield 15, 3) ∧ tF (mO 112) 15 = some (10, 1, 1, 1) := by decide +kernel
theorem k112_43 : decode (mB 112) 43 = .ok (.iload_n 1, 1) := by decide +kernel
theorem k112_44 : decode (mB 112) 44 = .ok (.iaload, 1) := by decide +kernel
theorem k112_45 : decode (mB 112) 45 = .ok (.aload_n 0, 1) := by decide +kernel
theorem k112_46 : decode (mB 112) 46 = .ok (.getfield 15, 3) ∧ tF (mO 112) 15 = some (10, 1, 1, 1) := by decide +kernel
theorem k112_49 : decode (mB 112) 49 = .ok (.iload_n 3, 1) := by decide +kernel
theorem k112_50 : decode (mB 112) 50 = .ok (.iaload, 1) := by decide +kernel
theorem k112_51 : decode (mB 112) 51 = .ok (.if_icmp .eq 9, 3) := by decide +kernel
theorem k112_54 : decode (mB 112) 54 = .ok (.aload_n 0, 1) := by decide +kernel
theorem k112_55 : decode (mB 112) 55 = .ok (.iconst 5, 1) := by decide +kernel
theorem k112_56 : decode (mB 112) 56 = .ok (.invokevirtual 83, 3) ∧ tVn (mO 112) 83 = some 1 ∧ tV (mO 112) 83 10 = some 149 := by decide +kernel
theorem k112_59 : decode (mB 112) 59 = .ok (.ireturn, 1) ∧ mR 112 = (some .int) := by decide +kernel
theorem k112_60 : decode (mB 112) 60 = .ok (.aload_n 0, 1) := by decide +kernel
theorem k112_61 : decode (mB 112) 61 = .ok (.getfield 11, 3) ∧ tF (mO 112) 11 = some (10, 0, 1, 1) := by decide +kernel
theorem k112_64 : decode (mB 112) 64 = .ok (.iload_n 1, 1) := by decide +kernel
theorem k112_65 : decode (mB 112) 65 = .ok (.aaload, 1) := by decide +kernel
theorem k112_66 : decode (mB 112) 66 = .ok (.iload_n 2, 1) := by decide +kernel
theorem k112_67 : decode (mB 112) 67 = .ok (.iload 5, 2) := by decide +kernel
theorem k112_69 : decode (mB 112) 69 = .ok (.invokevirtual 110, 3) ∧ tVn (mO 112) 110 = some 2 ∧ tV (mO 112) 110 4 = some 49 := by decide +kernel
theorem k112_72 : decode (mB 112) 72 = .ok (.ifCond .eq 19, 3) := by decide +kernel
theorem k112_75 : decode (mB 112) 75 = .ok (.aload_n 0, 1) := by decide +kernel
theorem k112_76 : decode (mB 112) 76 = .ok (.getfield 11, 3) ∧ tF (mO 112) 11 = some (10, 0, 1, 1) := by decide +kernel
theorem k112_79 : decode (mB 112) 79 = .ok (.iload_n 3, 1) := by decide +kernel
theorem k112_80 : decode (mB 112) 80 = .ok (.aaload, 1) := by decide +kernel
theorem k112_81 : decode (mB 112) 81 = .ok (.iload 4, 2) := by decide +kernel
theorem k112_83 : decode (mB 112) 83 = .ok (.iload 5, 2) := by decide +kernel
theorem k112_85 : decode (mB 112) 85 = .ok (.invokevirtual 110, 3) ∧ tVn (mO 112) 110 = some 2 ∧ tV (mO 112) 110 4 = some 49 := by decide +kernel
theorem k112_88 : decode (mB 112) 88 = .ok (.ifCond .ne 9, 3) := by decide +kernel
theorem k112_91 : decode (mB 112) 91 = .ok (.aload_n 0, 1) := by decide +kernel
theorem k112_92 : decode (mB 112) 92 = .ok (.iconst 2, 1) := by decide +kernel
theorem k112_93 : decode (mB 112) 93 = .ok (.invokevirtual 83, 3) ∧ tVn (mO 112) 83 = some 1 ∧ tV (mO 112) 83 10 = some 149 := by decide +kernel
theorem k112_96 : decode (mB 112) 96 = .ok (.ireturn, 1) ∧ mR 112 = (some .int) := by decide +kernel
theorem k112_97 : decode (mB 112) 97 = .ok (.aload_n 0, 1) := by decide +kernel
theorem k112_98 : decode (mB 112) 98 = .ok (.getfield 11, 3) ∧ tF (mO 112) 11 = some (10, 0, 1, 1) := by decide +kernel
theorem k112_101 : decode (mB 112) 101 = .ok (.iload_n 1, 1) := by decide +kernel
theorem k112_102 : decode (mB 112) 102 = .ok (.aaload, 1) := by decide +kernel
theorem k112_103 : decode (mB 112) 103 = .ok (.getfield 103, 3) ∧ tF (mO 112) 103 = some (4, 0, 1, 1) := by decide +kernel
theorem k112_106 : decode (mB 112) 106 = .ok (.iload_n 2, 1) := by decide +kernel
theorem k112_107 : decode (mB 112) 107 = .ok (.aload_n 0, 1) := by decide +kernel
theorem k112_108 : decode (mB 112) 108 = .ok (.getfield 11, 3) ∧ tF (mO 112) 11 = some (10, 0, 1, 1) := by decide +kernel
theorem k112_111 : decode (mB 112) 111 = .ok (.iload_n 3, 1) := by decide +kernel
theorem k112_112 : decode (mB 112) 112 = .ok (.aaload, 1) := by decide +kernel
theorem k112_113 : decode (mB 112) 113 = .ok (.getfield 103, 3) ∧ tF (mO 112) 103 = some (4, 0, 1, 1) := by decide +kernel
theorem k112_116 : decode (mB 112) 116 = .ok (.iload 4, 2) := by decide +kernel
theorem k112_118 : decode (mB 112) 118 = .ok (.iload 5, 2) := by decide +kernel
theorem k112_120 : decode (mB 112) 120 = .ok (.invokestatic 114, 3) ∧ tM (mO 112) 114 = some 0 := by decide +kernel
theorem k112_123 : decode (mB 112) 123 = .ok (.aload_n 0, 1) := by decide +kernel
theorem k112_124 : decode (mB 112) 124 = .ok (.iload 5, 2) := by decide +kernel
theorem k112_126 : decode (mB 112) 126 = .ok (.invokevirtual 93, 3) ∧ tVn (mO 112) 93 = some 1 ∧ tV (mO 112) 93 10 = some 150 := by decide +kernel
theorem k112_129 : decode (mB 112) 129 = .ok (.ireturn, 1) ∧ mR 112 = (some .int) := by decide +kernel
-- 113: ChairPast.drop:(I)I, locals 3
theorem l113 : mL 113 = 3 := by decide +kernel
theorem k113_0 : decode (mB 113) 0 = .ok (.iload_n 1, 1) := by decide +kernel
theorem k113_1 : decode (mB 113) 1 = .ok (.invokestatic 74, 3) ∧ tM (mO 113) 74 = none ∧ tS (mO 113) 74 = some 144 := by decide +kernel
theorem k113_4 : decode (mB 113) 4 = .ok (.ifCond .ne 6, 3) := by decide +kernel
theorem k113_7 : decode (mB 113) 7 = .ok (.ldc 82, 2) ∧ tK (mO 113) 82 = some (-1000001) := by decide +kernel
theorem k113_9 : decode (mB 113) 9 = .ok (.ireturn, 1) ∧ mR 113 = (some .int) := by decide +kernel
theorem k113_10 : decode (mB 113) 10 = .ok (.aload_n 0, 1) := by decide +kernel
theorem k113_11 : decode (mB 113) 11 = .ok (.iload_n 1, 1) := by decide +kernel
theorem k113_12 : decode (mB 113) 12 = .ok (.invokevirtual 96, 3) ∧ tVn (mO 113) 96 = some 1 ∧ tV (mO 113) 96 10 = some 145 := by decide +kernel
theorem k113_15 : decode (mB 113) 15 = .ok (.ifCond .eq 9, 3) := by decide +kernel
theorem k113_18 : decode (mB 113) 18 = .ok (.aload_n 0, 1) := by decide +kernel
theorem k113_19 : decode (mB 113) 19 = .ok (.iconst 1, 1) := by decide +kernel
theorem k113_20 : decode (mB 113) 20 = .ok (.invokevirtual 83, 3) ∧ tVn (mO 113) 83 = some 1 ∧ tV (mO 113) 83 10 = some 149 := by decide +kernel
theorem k113_23 : decode (mB 113) 23 = .ok (.ireturn, 1) ∧ mR 113 = (some .int) := by decide +kernel
theorem k113_24 : decode (mB 113) 24 = .ok (.aload_n 0, 1) := by decide +kernel
theorem k113_25 : decode (mB 113) 25 = .ok (.getfield 11, 3) ∧ tF (mO 113) 11 = some (10, 0, 1, 1) := by decide +kernel
theorem k113_28 : decode (mB 113) 28 = .ok (.iload_n 1, 1) := by decide +kernel
theorem k113_29 : decode (mB 113) 29 = .ok (.aaload, 1) := by decide +kernel
theorem k113_30 : decode (mB 113) 30 = .ok (.getfield 99, 3) ∧ tF (mO 113) 99 = some (4, 1, 0, 0) := by decide +kernel
theorem k113_33 : decode (mB 113) 33 = .ok (.istore_n 2, 1) := by decide +kernel
theorem k113_34 : decode (mB 113) 34 = .ok (.aload_n 0, 1) := by decide +kernel
theorem k113_35 : decode (mB 113) 35 = .ok (.getfield 15, 3) ∧ tF (mO 113) 15 = some (10, 1, 1, 1) := by decide +kernel
theorem k113_38 : decode (mB 113) 38 = .ok (.iload_n 1, 1) := by decide +kernel
theorem k113_39 : decode (mB 113) 39 = .ok (.iconst (-1), 1) := by decide +kernel
theorem k113_40 : decode (mB 113) 40 = .ok (.iastore, 1) := by decide +kernel
theorem k113_41 : decode (mB 113) 41 = .ok (.aload_n 0, 1) := by decide +kernel
theorem k113_42 : decode (mB 113) 42 = .ok (.getfield 11, 3) ∧ tF (mO 113) 11 = some (10, 0, 1, 1) := by decide +kernel
theorem k113_45 : decode (mB 113) 45 = .ok (.iload_n 1, 1) := by decide +kernel
theorem k113_46 : decode (mB 113) 46 = .ok (.aaload, 1) := by decide +kernel
theorem k113_47 : decode (mB 113) 47 = .ok (.invokevirtual 87, 3) ∧ tVn (mO 113) 87 = some 0 ∧ tV (mO 113) 87 4 = some 46 := by decide +kernel
theorem k113_50 : decode (mB 113) 50 = .ok (.aload_n 0, 1) := by decide +kernel
theorem k113_51 : decode (mB 113) 51 = .ok (.iload_n 2, 1) := by decide +kernel
theorem k113_52 : decode (mB 113) 52 = .ok (.invokevirtual 93, 3) ∧ tVn (mO 113) 93 = some 1 ∧ tV (mO 113) 93 10 = some 150 := by decide +kernel
theorem k113_55 : decode (mB 113) 55 = .ok (.ireturn, 1) ∧ mR 113 = (some .int) := by decide +kernel
-- 114: ChairPast.feed:(I)I, locals 2
theorem l114 : mL 114 = 2 := by decide +kernel
theorem k114_0 : decode (mB 114) 0 = .ok (.iload_n 1, 1) := by decide +kernel
theorem k114_1 : decode (mB 114) 1 = .ok (.iconst 0, 1) := by decide +kernel
theorem k114_2 : decode (mB 114) 2 = .ok (.sipush 255, 3) := by decide +kernel
theorem k114_5 : decode (mB 114) 5 = .ok (.invokestatic 78, 3) ∧ tM (mO 114) 78 = none ∧ tS (mO 114) 78 = some 143 := by decide +kernel
theorem k114_8 : decode (mB 114) 8 = .ok (.ifCond .ne 6, 3) := by decide +kernel
theorem k114_11 : decode (mB 114) 11 = .ok (.ldc 82, 2) ∧ tK (mO 114) 82 = some (-1000001) := by decide +kernel
theorem k114_13 : decode (mB 114) 13 = .ok (.ireturn, 1) ∧ mR 114 = (some .int) := by decide +kernel
theorem k114_14 : decode (mB 114) 14 = .ok (.aload_n 0, 1) := by decide +kernel
theorem k114_15 : decode (mB 114) 15 = .ok (.getfield 61, 3) ∧ tF (mO 114) 61 = some (10, 6, 1, 1) := by decide +kernel
theorem k114_18 : decode (mB 114) 18 = .ok (.getfield 120, 3) ∧ tF (mO 114) 120 = some (6, 0, 1, 1) := by decide +kernel
theorem k114_21 : decode (mB 114) 21 = .ok (.iload_n 1, 1) := by decide +kernel
theorem k114_22 : decode (mB 114) 22 = .ok (.invokevirtual 90, 3) ∧ tVn (mO 114) 90 = some 1 ∧ tV (mO 114) 90 4 = some 47 := by decide +kernel
theorem k114_25 : decode (mB 114) 25 = .ok (.ifCond .eq 16, 3) := by decide +kernel
theorem k114_28 : decode (mB 114) 28 = .ok (.aload_n 0, 1) := by decide +kernel
theorem k114_29 : decode (mB 114) 29 = .ok (.getfield 61, 3) ∧ tF (mO 114) 61 = some (10, 6, 1, 1) := by decide +kernel
theorem k114_32 : decode (mB 114) 32 = .ok (.getfield 120, 3) ∧ tF (mO 114) 120 = some (6, 0, 1, 1) := by decide +kernel
theorem k114_35 : decode (mB 114) 35 = .ok (.getfield 99, 3) ∧ tF (mO 114) 99 = some (4, 1, 0, 0) := by decide +kernel
theorem k114_38 : decode (mB 114) 38 = .ok (.goto 5, 3) := by decide +kernel
theorem k114_41 : decode (mB 114) 41 = .ok (.ldc 123, 2) ∧ tK (mO 114) 123 = some (-1000003) := by decide +kernel
theorem k114_43 : decode (mB 114) 43 = .ok (.ireturn, 1) ∧ mR 114 = (some .int) := by decide +kernel
-- 115: ChairPast.room:()I, locals 1
theorem l115 : mL 115 = 1 := by decide +kernel
theorem k115_0 : decode (mB 115) 0 = .ok (.aload_n 0, 1) := by decide +kernel
theorem k115_1 : decode (mB 115) 1 = .ok (.getfield 61, 3) ∧ tF (mO 115) 61 = some (10, 6, 1, 1) := by decide +kernel
theorem k115_4 : decode (mB 115) 4 = .ok (.invokevirtual 124, 3) ∧ tVn (mO 115) 124 = some 0 ∧ tV (mO 115) 124 6 = some 60 := by decide +kernel
theorem k115_7 : decode (mB 115) 7 = .ok (.ifCond .ne 25, 3) := by decide +kernel
theorem k115_10 : decode (mB 115) 10 = .ok (.aload_n 0, 1) := by decide +kernel
theorem k115_11 : decode (mB 115) 11 = .ok (.aload_n 0, 1) := by decide +kernel
theorem k115_12 : decode (mB 115) 12 = .ok (.getfield 61, 3) ∧ tF (mO 115) 61 = some (10, 6, 1, 1) := by decide +kernel
theorem k115_15 : decode (mB 115) 15 = .ok (.getfield 128, 3) ∧ tF (mO 115) 128 = some (6, 4, 0, 0) := by decide +kernel
theorem k115_18 : decode (mB 115) 18 = .ok (.putfield 131, 3) ∧ tF (mO 115) 131 = some (10, 10, 0, 0) := by decide +kernel
theorem k115_21 : decode (mB 115) 21 = .ok (.ldc 134, 2) ∧ tK (mO 115) 134 = some (-1000100) := by decide +kernel
theorem k115_23 : decode (mB 115) 23 = .ok (.aload_n 0, 1) := by decide +kernel
theorem k115_24 : decode (mB 115) 24 = .ok (.getfield 61, 3) ∧ tF (mO 115) 61 = some (10, 6, 1, 1) := by decide +kernel
theorem k115_27 : decode (mB 115) 27 = .ok (.getfield 135, 3) ∧ tF (mO 115) 135 = some (6, 3, 0, 0) := by decide +kernel
theorem k115_30 : decode (mB 115) 30 = .ok (.isub, 1) := by decide +kernel
theorem k115_31 : decode (mB 115) 31 = .ok (.ireturn, 1) ∧ mR 115 = (some .int) := by decide +kernel
theorem k115_32 : decode (mB 115) 32 = .ok (.aload_n 0, 1) := by decide +kernel
theorem k115_33 : decode (mB 115) 33 = .ok (.getfield 54, 3) ∧ tF (mO 115) 54 = some (10, 5, 1, 1) := by decide +kernel
theorem k115_36 : decode (mB 115) 36 = .ok (.aload_n 0, 1) := by decide +kernel
theorem k115_37 : decode (mB 115) 37 = .ok (.getfield 61, 3) ∧ tF (mO 115) 61 = some (10, 6, 1, 1) := by decide +kernel
theorem k115_40 : decode (mB 115) 40 = .ok (.invokevirtual 138, 3) ∧ tVn (mO 115) 138 = some 0 ∧ tV (mO 115) 138 6 = some 61 := by decide +kernel
theorem k115_43 : decode (mB 115) 43 = .ok (.invokevirtual 142, 3) ∧ tVn (mO 115) 142 = some 1 ∧ tV (mO 115) 142 8 = some 102 := by decide +kernel
theorem k115_46 : decode (mB 115) 46 = .ok (.aload_n 0, 1) := by decide +kernel
theorem k115_47 : decode (mB 115) 47 = .ok (.invokevirtual 146, 3) ∧ tVn (mO 115) 146 = some 0 ∧ tV (mO 115) 146 10 = some 152 := by decide +kernel
theorem k115_50 : decode (mB 115) 50 = .ok (.aload_n 0, 1) := by decide +kernel
theorem k115_51 : decode (mB 115) 51 = .ok (.getfield 54, 3) ∧ tF (mO 115) 54 = some (10, 5, 1, 1) := by decide +kernel
theorem k115_54 : decode (mB 115) 54 = .ok (.getfield 149, 3) ∧ tF (mO 115) 149 = some (8, 6, 0, 0) := by decide +kernel
theorem k115_57 : decode (mB 115) 57 = .ok (.ireturn, 1) ∧ mR 115 = (some .int) := by decide +kernel
-- 116: ChairPast.fault:()I, locals 1
theorem l116 : mL 116 = 1 := by decide +kernel
theorem k116_0 : decode (mB 116) 0 = .ok (.aload_n 0, 1) := by decide +kernel
theorem k116_1 : decode (mB 116) 1 = .ok (.getfield 131, 3) ∧ tF (mO 116) 131 = some (10, 10, 0, 0) := by decide +kernel
theorem k116_4 : decode (mB 116) 4 = .ok (.ireturn, 1) ∧ mR 116 = (some .int) := by decide +kernel
-- 117: ChairPast.sit:(II)I, locals 3
theorem l117 : mL 117 = 3 := by decide +kernel
theorem k117_0 : decode (mB 117) 0 = .ok (.aload_n 0, 1) := by decide +kernel
theorem k117_1 : decode (mB 117) 1 = .ok (.getfield 54, 3) ∧ tF (mO 117) 54 = some (10, 5, 1, 1) := by decide +kernel
theorem k117_4 : decode (mB 117) 4 = .ok (.iload_n 1, 1) := by decide +kernel
theorem k117_5 : decode (mB 117) 5 = .ok (.invokevirtual 152, 3) ∧ tVn (mO 117) 152 = some 1 ∧ tV (mO 117) 152 8 = some 85 := by decide +kernel
theorem k117_8 : decode (mB 117) 8 = .ok (.ifCond .eq 14, 3) := by decide +kernel
theorem k117_11 : decode (mB 117) 11 = .ok (.aload_n 0, 1) := by decide +kernel
theorem k117_12 : decode (mB 117) 12 = .ok (.getfield 54, 3) ∧ tF (mO 117) 54 = some (10, 5, 1, 1) := by decide +kernel
theorem k117_15 : decode (mB 117) 15 = .ok (.iload_n 2, 1) := by decide +kernel
theorem k117_16 : decode (mB 117) 16 = .ok (.invokevirtual 155, 3) ∧ tVn (mO 117) 155 = some 1 ∧ tV (mO 117) 155 8 = some 84 := by decide +kernel
theorem k117_19 : decode (mB 117) 19 = .ok (.ifCond .ne 6, 3) := by decide +kernel
theorem k117_22 : decode (mB 117) 22 = .ok (.ldc 82, 2) ∧ tK (mO 117) 82 = some (-1000001) := by decide +kernel
theorem k117_24 : decode (mB 117) 24 = .ok (.ireturn, 1) ∧ mR 117 = (some .int) := by decide +kernel
theorem k117_25 : decode (mB 117) 25 = .ok (.aload_n 0, 1) := by decide +kernel
theorem k117_26 : decode (mB 117) 26 = .ok (.getfield 54, 3) ∧ tF (mO 117) 54 = some (10, 5, 1, 1) := by decide +kernel
theorem k117_29 : decode (mB 117) 29 = .ok (.iload_n 1, 1) := by decide +kernel
theorem k117_30 : decode (mB 117) 30 = .ok (.invokevirtual 158, 3) ∧ tVn (mO 117) 158 = some 1 ∧ tV (mO 117) 158 8 = some 86 := by decide +kernel
theorem k117_33 : decode (mB 117) 33 = .ok (.ifCond .ne 14, 3) := by decide +kernel
theorem k117_36 : decode (mB 117) 36 = .ok (.aload_n 0, 1) := by decide +kernel
theorem k117_37 : decode (mB 117) 37 = .ok (.getfield 54, 3) ∧ tF (mO 117) 54 = some (10, 5, 1, 1) := by decide +kernel
theorem k117_40 : decode (mB 117) 40 = .ok (.iload_n 2, 1) := by decide +kernel
theorem k117_41 : decode (mB 117) 41 = .ok (.invokevirtual 161, 3) ∧ tVn (mO 117) 161 = some 1 ∧ tV (mO 117) 161 8 = some 87 := by decide +kernel
theorem k117_44 : decode (mB 117) 44 = .ok (.ifCond .eq 6, 3) := by decide +kernel
theorem k117_47 : decode (mB 117) 47 = .ok (.ldc 164, 2) ∧ tK (mO 117) 164 = some (-1000002) := by decide +kernel
theorem k117_49 : decode (mB 117) 49 = .ok (.ireturn, 1) ∧ mR 117 = (some .int) := by decide +kernel
theorem k117_50 : decode (mB 117) 50 = .ok (.aload_n 0, 1) := by decide +kernel
theorem k117_51 : decode (mB 117) 51 = .ok (.invokevirtual 165, 3) ∧ tVn (mO 117) 165 = some 0 ∧ tV (mO 117) 165 10 = some 151 := by decide +kernel
theorem k117_54 : decode (mB 117) 54 = .ok (.aload_n 0, 1) := by decide +kernel
theorem k117_55 : decode (mB 117) 55 = .ok (.getfield 54, 3) ∧ tF (mO 117) 54 = some (10, 5, 1, 1) := by decide +kernel
theorem k117_58 : decode (mB 117) 58 = .ok (.iload_n 1, 1) := by decide +kernel
theorem k117_59 : decode (mB 117) 59 = .ok (.iload_n 2, 1) := by decide +kernel
theorem k117_60 : decode (mB 117) 60 = .ok (.invokevirtual 168, 3) ∧ tVn (mO 117) 168 = some 2 ∧ tV (mO 117) 168 8 = some 88 := by decide +kernel
theorem k117_63 : decode (mB 117) 63 = .ok (.aload_n 0, 1) := by decide +kernel
theorem k117_64 : decode (mB 117) 64 = .ok (.getfield 54, 3) ∧ tF (mO 117) 54 = some (10, 5, 1, 1) := by decide +kernel
theorem k117_67 : decode (mB 117) 67 = .ok (.getfield 172, 3) ∧ tF (mO 117) 172 = some (8, 5, 1, 1) := by decide +kernel
theorem k117_70 : decode (mB 117) 70 = .ok (.iload_n 1, 1) := by decide +kernel
theorem k117_71 : decode (mB 117) 71 = .ok (.iaload, 1) := by decide +kernel
theorem k117_72 : decode (mB 117) 72 = .ok (.ireturn, 1) ∧ mR 117 = (some .int) := by decide +kernel
-- 118: ChairPast.rise:(I)I, locals 3
theorem l118 : mL 118 = 3 := by decide +kernel
theorem k118_0 : decode (mB 118) 0 = .ok (.aload_n 0, 1) := by decide +kernel
theorem k118_1 : decode (mB 118) 1 = .ok (.getfield 54, 3) ∧ tF (mO 118) 54 = some (10, 5, 1, 1) := by decide +kernel
theorem k118_4 : decode (mB 118) 4 = .ok (.iload_n 1, 1) := by decide +kernel
theorem k118_5 : decode (mB 118) 5 = .ok (.invokevirtual 152, 3) ∧ tVn (mO 118) 152 = some 1 ∧ tV (mO 118) 152 8 = some 85 := by decide +kernel
theorem k118_8 : decode (mB 118) 8 = .ok (.ifCond .ne 6, 3) := by decide +kernel
theorem k118_11 : decode (mB 118) 11 = .ok (.ldc 82, 2) ∧ tK (mO 118) 82 = some (-1000001) := by decide +kernel
theorem k118_13 : decode (mB 118) 13 = .ok (.ireturn, 1) ∧ mR 118 = (some .int) := by decide +kernel
theorem k118_14 : decode (mB 118) 14 = .ok (.aload_n 0, 1) := by decide +kernel
theorem k118_15 : decode (mB 118) 15 = .ok (.getfield 54, 3) ∧ tF (mO 118) 54 = some (10, 5, 1, 1) := by decide +kernel
theorem k118_18 : decode (mB 118) 18 = .ok (.iload_n 1, 1) := by decide +kernel
theorem k118_19 : decode (mB 118) 19 = .ok (.invokevirtual 158, 3) ∧ tVn (mO 118) 158 = some 1 ∧ tV (mO 118) 158 8 = some 86 := by decide +kernel
theorem k118_22 : decode (mB 118) 22 = .ok (.ifCond .ne 6, 3) := by decide +kernel
theorem k118_25 : decode (mB 118) 25 = .ok (.ldc 164, 2) ∧ tK (mO 118) 164 = some (-1000002) := by decide +kernel
theorem k118_27 : decode (mB 118) 27 = .ok (.ireturn, 1) ∧ mR 118 = (some .int) := by decide +kernel
theorem k118_28 : decode (mB 118) 28 = .ok (.aload_n 0, 1) := by decide +kernel
theorem k118_29 : decode (mB 118) 29 = .ok (.invokevirtual 165, 3) ∧ tVn (mO 118) 165 = some 0 ∧ tV (mO 118) 165 10 = some 151 := by decide +kernel
theorem k118_32 : decode (mB 118) 32 = .ok (.aload_n 0, 1) := by decide +kernel
theorem k118_33 : decode (mB 118) 33 = .ok (.getfield 54, 3) ∧ tF (mO 118) 54 = some (10, 5, 1, 1) := by decide +kernel
theorem k118_36 : decode (mB 118) 36 = .ok (.getfield 175, 3) ∧ tF (mO 118) 175 = some (8, 4, 1, 1) := by decide +kernel
theorem k118_39 : decode (mB 118) 39 = .ok (.iload_n 1, 1) := by decide +kernel
theorem k118_40 : decode (mB 118) 40 = .ok (.iaload, 1) := by decide +kernel
theorem k118_41 : decode (mB 118) 41 = .ok (.istore_n 2, 1) := by decide +kernel
theorem k118_42 : decode (mB 118) 42 = .ok (.aload_n 0, 1) := by decide +kernel
theorem k118_43 : decode (mB 118) 43 = .ok (.getfield 54, 3) ∧ tF (mO 118) 54 = some (10, 5, 1, 1) := by decide +kernel
theorem k118_46 : decode (mB 118) 46 = .ok (.iload_n 1, 1) := by decide +kernel
theorem k118_47 : decode (mB 118) 47 = .ok (.invokevirtual 178, 3) ∧ tVn (mO 118) 178 = some 1 ∧ tV (mO 118) 178 8 = some 90 := by decide +kernel
theorem k118_50 : decode (mB 118) 50 = .ok (.iload_n 2, 1) := by decide +kernel
theorem k118_51 : decode (mB 118) 51 = .ok (.ireturn, 1) ∧ mR 118 = (some .int) := by decide +kernel
-- 119: ChairPast.recane:(I)I, locals 3
theorem l119 : mL 119 = 3 := by decide +kernel
theorem k119_0 : decode (mB 119) 0 = .ok (.aload_n 0, 1) := by decide +kernel
theorem k119_1 : decode (mB 119) 1 = .ok (.getfield 54, 3) ∧ tF (mO 119) 54 = some (10, 5, 1, 1) := by decide +kernel
theorem k119_4 : decode (mB 119) 4 = .ok (.iload_n 1, 1) := by decide +kernel
theorem k119_5 : decode (mB 119) 5 = .ok (.invokevirtual 155, 3) ∧ tVn (mO 119) 155 = some 1 ∧ tV (mO 119) 155 8 = some 84 := by decide +kernel
theorem k119_8 : decode (mB 119) 8 = .ok (.ifCond .ne 6, 3) := by decide +kernel
theorem k119_11 : decode (mB 119) 11 = .ok (.ldc 82, 2) ∧ tK (mO 119) 82 = some (-1000001) := by decide +kernel
theorem k119_13 : decode (mB 119) 13 = .ok (.ireturn, 1) ∧ mR 119 = (some .int) := by decide +kernel
theorem k119_14 : decode (mB 119) 14 = .ok (.aload_n 0, 1) := by decide +kernel
theorem k119_15 : decode (mB 119) 15 = .ok (.invokevirtual 165, 3) ∧ tVn (mO 119) 165 = some 0 ∧ tV (mO 119) 165 10 = some 151 := by decide +kernel
theorem k119_18 : decode (mB 119) 18 = .ok (.aload_n 0, 1) := by decide +kernel
theorem k119_19 : decode (mB 119) 19 = .ok (.getfield 54, 3) ∧ tF (mO 119) 54 = some (10, 5, 1, 1) := by decide +kernel
theorem k119_22 : decode (mB 119) 22 = .ok (.getfield 181, 3) ∧ tF (mO 119) 181 = some (8, 1, 1, 1) := by decide +kernel
theorem k119_25 : decode (mB 119) 25 = .ok (.iload_n 1, 1) := by decide +kernel
theorem k119_26 : decode (mB 119) 26 = .ok (.aaload, 1) := by decide +kernel
theorem k119_27 : decode (mB 119) 27 = .ok (.getfield 185, 3) ∧ tF (mO 119) 185 = some (1, 2, 0, 0) := by decide +kernel
theorem k119_30 : decode (mB 119) 30 = .ok (.istore_n 2, 1) := by decide +kernel
theorem k119_31 : decode (mB 119) 31 = .ok (.aload_n 0, 1) := by decide +kernel
theorem k119_32 : decode (mB 119) 32 = .ok (.getfield 54, 3) ∧ tF (mO 119) 54 = some (10, 5, 1, 1) := by decide +kernel
theorem k119_35 : decode (mB 119) 35 = .ok (.getfield 181, 3) ∧ tF (mO 119) 181 = some (8, 1, 1, 1) := by decide +kernel
theorem k119_38 : decode (mB 119) 38 = .ok (.iload_n 1, 1) := by decide +kernel
theorem k119_39 : decode (mB 119) 39 = .ok (.aaload, 1) := by decide +kernel
theorem k119_40 : decode (mB 119) 40 = .ok (.iconst 0, 1) := by decide +kernel
theorem k119_41 : decode (mB 119) 41 = .ok (.putfield 185, 3) ∧ tF (mO 119) 185 = some (1, 2, 0, 0) := by decide +kernel
theorem k119_44 : decode (mB 119) 44 = .ok (.iload_n 2, 1) := by decide +kernel
theorem k119_45 : decode (mB 119) 45 = .ok (.ireturn, 1) ∧ mR 119 = (some .int) := by decide +kernel
-- 120: ChairPast.move:(I)I, locals 2
theorem l120 : mL 120 = 2 := by decide +kernel
theorem k120_0 : decode (mB 120) 0 = .ok (.iload_n 1, 1) := by decide +kernel
theorem k120_1 : decode (mB 120) 1 = .ok (.iconst 0, 1) := by decide +kernel
theorem k120_2 : decode (mB 120) 2 = .ok (.aload_n 0, 1) := by decide +kernel
theorem k120_3 : decode (mB 120) 3 = .ok (.getfield 54, 3) ∧ tF (mO 120) 54 = some (10, 5, 1, 1) := by decide +kernel
theorem k120_6 : decode (mB 120) 6 = .ok (.getfield 149, 3) ∧ tF (mO 120) 149 = some (8, 6, 0, 0) := by decide +kernel
theorem k120_9 : decode (mB 120) 9 = .ok (.iconst 2, 1) := by decide +kernel
theorem k120_10 : decode (mB 120) 10 = .ok (.isub, 1) := by decide +kernel
theorem k120_11 : decode (mB 120) 11 = .ok (.invokestatic 78, 3) ∧ tM (mO 120) 78 = none ∧ tS (mO 120) 78 = some 143 := by decide +kernel
theorem k120_14 : decode (mB 120) 14 = .ok (.ifCond .ne 6, 3) := by decide +kernel
theorem k120_17 : decode (mB 120) 17 = .ok (.ldc 82, 2) ∧ tK (mO 120) 82 = some (-1000001) := by decide +kernel
theorem k120_19 : decode (mB 120) 19 = .ok (.ireturn, 1) ∧ mR 120 = (some .int) := by decide +kernel
theorem k120_20 : decode (mB 120) 20 = .ok (.aload_n 0, 1) := by decide +kernel
theorem k120_21 : decode (mB 120) 21 = .ok (.invokevirtual 165, 3) ∧ tVn (mO 120) 165 = some 0 ∧ tV (mO 120) 165 10 = some 151 := by decide +kernel
theorem k120_24 : decode (mB 120) 24 = .ok (.aload_n 0, 1) := by decide +kernel
theorem k120_25 : decode (mB 120) 25 = .ok (.getfield 54, 3) ∧ tF (mO 120) 54 = some (10, 5, 1, 1) := by decide +kernel
theorem k120_28 : decode (mB 120) 28 = .ok (.iload_n 1, 1) := by decide +kernel
theorem k120_29 : decode (mB 120) 29 = .ok (.invokevirtual 190, 3) ∧ tVn (mO 120) 190 = some 1 ∧ tV (mO 120) 190 8 = some 91 := by decide +kernel
theorem k120_32 : decode (mB 120) 32 = .ok (.aload_n 0, 1) := by decide +kernel
theorem k120_33 : decode (mB 120) 33 = .ok (.getfield 54, 3) ∧ tF (mO 120) 54 = some (10, 5, 1, 1) := by decide +kernel
theorem k120_36 : decode (mB 120) 36 = .ok (.invokevirtual 193, 3) ∧ tVn (mO 120) 193 = some 0 ∧ tV (mO 120) 193 8 = some 92 := by decide +kernel
theorem k120_39 : decode (mB 120) 39 = .ok (.ireturn, 1) ∧ mR 120 = (some .int) := by decide +kernel
-- 121: ChairPast.undo:()I, locals 1
theorem l121 : mL 121 = 1 := by decide +kernel
theorem k121_0 : decode (mB 121) 0 = .ok (.aload_n 0, 1) := by decide +kernel
theorem k121_1 : decode (mB 121) 1 = .ok (.getfield 197, 3) ∧ tF (mO 121) 197 = some (10, 9, 0, 0) := by decide +kernel
theorem k121_4 : decode (mB 121) 4 = .ok (.ifCond .ne 6, 3) := by decide +kernel
theorem k121_7 : decode (mB 121) 7 = .ok (.ldc 164, 2) ∧ tK (mO 121) 164 = some (-1000002) := by decide +kernel
theorem k121_9 : decode (mB 121) 9 = .ok (.ireturn, 1) ∧ mR 121 = (some .int) := by decide +kernel
theorem k121_10 : decode (mB 121) 10 = .ok (.aload_n 0, 1) := by decide +kernel
theorem k121_11 : decode (mB 121) 11 = .ok (.dup, 1) := by decide +kernel
theorem k121_12 : decode (mB 121) 12 = .ok (.getfield 197, 3) ∧ tF (mO 121) 197 = some (10, 9, 0, 0) := by decide +kernel
theorem k121_15 : decode (mB 121) 15 = .ok (.iconst 1, 1) := by decide +kernel
theorem k121_16 : decode (mB 121) 16 = .ok (.isub, 1) := by decide +kernel
theorem k121_17 : decode (mB 121) 17 = .ok (.putfield 197, 3) ∧ tF (mO 121) 197 = some (10, 9, 0, 0) := by decide +kernel
theorem k121_20 : decode (mB 121) 20 = .ok (.aload_n 0, 1) := by decide +kernel
theorem k121_21 : decode (mB 121) 21 = .ok (.getfield 54, 3) ∧ tF (mO 121) 54 = some (10, 5, 1, 1) := by decide +kernel
theorem k121_24 : decode (mB 121) 24 = .ok (.aload_n 0, 1) := by decide +kernel
theorem k121_25 : decode (mB 121) 25 = .ok (.getfield 29, 3) ∧ tF (mO 121) 29 = some (10, 4, 1, 1) := by decide +kernel
theorem k121_28 : decode (mB 121) 28 = .ok (.aload_n 0, 1) := by decide +kernel
theorem k121_29 : decode (mB 121) 29 = .ok (.getfield 200, 3) ∧ tF (mO 121) 200 = some (10, 8, 0, 0) := by decide +kernel
theorem k121_32 : decode (mB 121) 32 = .ok (.aload_n 0, 1) := by decide +kernel
theorem k121_33 : decode (mB 121) 33 = .ok (.getfield 197, 3) ∧ tF (mO 121) 197 = some (10, 9, 0, 0) := by decide +kernel
theorem k121_36 : decode (mB 121) 36 = .ok (.iadd, 1) := by decide +kernel
theorem k121_37 : decode (mB 121) 37 = .ok (.bipush 24, 2) := by decide +kernel
theorem k121_39 : decode (mB 121) 39 = .ok (.irem, 1) := by decide +kernel
theorem k121_40 : decode (mB 121) 40 = .ok (.aaload, 1) := by decide +kernel
theorem k121_41 : decode (mB 121) 41 = .ok (.invokevirtual 142, 3) ∧ tVn (mO 121) 142 = some 1 ∧ tV (mO 121) 142 8 = some 102 := by decide +kernel
theorem k121_44 : decode (mB 121) 44 = .ok (.aload_n 0, 1) := by decide +kernel
theorem k121_45 : decode (mB 121) 45 = .ok (.getfield 197, 3) ∧ tF (mO 121) 197 = some (10, 9, 0, 0) := by decide +kernel
theorem k121_48 : decode (mB 121) 48 = .ok (.ireturn, 1) ∧ mR 121 = (some .int) := by decide +kernel
-- 122: ChairPast.chair:(II)I, locals 4
theorem l122 : mL 122 = 4 := by decide +kernel
theorem k122_0 : decode (mB 122) 0 = .ok (.aload_n 0, 1) := by decide +kernel
theorem k122_1 : decode (mB 122) 1 = .ok (.getfield 54, 3) ∧ tF (mO 122) 54 = some (10, 5, 1, 1) := by decide +kernel
theorem k122_4 : decode (mB 122) 4 = .ok (.iload_n 1, 1) := by decide +kernel
theorem k122_5 : decode (mB 122) 5 = .ok (.invokevirtual 155, 3) ∧ tVn (mO 122) 155 = some 1 ∧ tV (mO 122) 155 8 = some 84 := by decide +kernel
theorem k122_8 : decode (mB 122) 8 = .ok (.ifCond .ne 6, 3) := by decide +kernel
theorem k122_11 : decode (mB 122) 11 = .ok (.ldc 82, 2) ∧ tK (mO 122) 82 = some (-1000001) := by decide +kernel
theorem k122_13 : decode (mB 122) 13 = .ok (.ireturn, 1) ∧ mR 122 = (some .int) := by decide +kernel
theorem k122_14 : decode (mB 122) 14 = .ok (.aload_n 0, 1) := by decide +kernel
theorem k122_15 : decode (mB 122) 15 = .ok (.getfield 54, 3) ∧ tF (mO 122) 54 = some (10, 5, 1, 1) := by decide +kernel
theorem k122_18 : decode (mB 122) 18 = .ok (.getfield 181, 3) ∧ tF (mO 122) 181 = some (8, 1, 1, 1) := by decide +kernel
theorem k122_21 : decode (mB 122) 21 = .ok (.iload_n 1, 1) := by decide +kernel
theorem k122_22 : decode (mB 122) 22 = .ok (.aaload, 1) := by decide +kernel
theorem k122_23 : decode (mB 122) 23 = .ok (.astore_n 3, 1) := by decide +kernel
theorem k122_24 : decode (mB 122) 24 = .ok (.iload_n 2, 1) := by decide +kernel
theorem k122_25 : decode (mB 122) 25 = .ok (.tableswitch 60 0 4 #[35, 40, 45, 50, 55], 35) := by decide +kernel
theorem k122_60 : decode (mB 122) 60 = .ok (.aload_n 3, 1) := by decide +kernel
theorem k122_61 : decode (mB 122) 61 = .ok (.getfield 203, 3) ∧ tF (mO 122) 203 = some (1, 1, 0, 0) := by decide +kernel
theorem k122_64 : decode (mB 122) 64 = .ok (.ireturn, 1) ∧ mR 122 = (some .int) := by decide +kernel
theorem k122_65 : decode (mB 122) 65 = .ok (.aload_n 3, 1) := by decide +kernel
theorem k122_66 : decode (mB 122) 66 = .ok (.getfield 185, 3) ∧ tF (mO 122) 185 = some (1, 2, 0, 0) := by decide +kernel
theorem k122_69 : decode (mB 122) 69 = .ok (.ireturn, 1) ∧ mR 122 = (some .int) := by decide +kernel
theorem k122_70 : decode (mB 122) 70 = .ok (.aload_n 3, 1) := by decide +kernel
theorem k122_71 : decode (mB 122) 71 = .ok (.getfield 206, 3) ∧ tF (mO 122) 206 = some (1, 3, 0, 0) := by decide +kernel
theorem k122_74 : decode (mB 122) 74 = .ok (.ireturn, 1) ∧ mR 122 = (some .int) := by decide +kernel
theorem k122_75 : decode (mB 122) 75 = .ok (.aload_n 3, 1) := by decide +kernel
theorem k122_76 : decode (mB 122) 76 = .ok (.getfield 209, 3) ∧ tF (mO 122) 209 = some (1, 4, 0, 0) := by decide +kernel
theorem k122_79 : decode (mB 122) 79 = .ok (.ireturn, 1) ∧ mR 122 = (some .int) := by decide +kernel
theorem k122_80 : decode (mB 122) 80 = .ok (.aload_n 3, 1) := by decide +kernel
theorem k122_81 : decode (mB 122) 81 = .ok (.getfield 212, 3) ∧ tF (mO 122) 212 = some (1, 5, 0, 0) := by decide +kernel
theorem k122_84 : decode (mB 122) 84 = .ok (.ireturn, 1) ∧ mR 122 = (some .int) := by decide +kernel
theorem k122_85 : decode (mB 122) 85 = .ok (.ldc 82, 2) ∧ tK (mO 122) 82 = some (-1000001) := by decide +kernel
theorem k122_87 : decode (mB 122) 87 = .ok (.ireturn, 1) ∧ mR 122 = (some .int) := by decide +kernel
-- 123: ChairPast.guest:(II)I, locals 3
theorem l123 : mL 123 = 3 := by decide +kernel
theorem k123_0 : decode (mB 123) 0 = .ok (.aload_n 0, 1) := by decide +kernel
theorem k123_1 : decode (mB 123) 1 = .ok (.getfield 54, 3) ∧ tF (mO 123) 54 = some (10, 5, 1, 1) := by decide +kernel
theorem k123_4 : decode (mB 123) 4 = .ok (.iload_n 1, 1) := by decide +kernel
theorem k123_5 : decode (mB 123) 5 = .ok (.invokevirtual 152, 3) ∧ tVn (mO 123) 152 = some 1 ∧ tV (mO 123) 152 8 = some 85 := by decide +kernel
theorem k123_8 : decode (mB 123) 8 = .ok (.ifCond .ne 6, 3) := by decide +kernel
theorem k123_11 : decode (mB 123) 11 = .ok (.ldc 82, 2) ∧ tK (mO 123) 82 = some (-1000001) := by decide +kernel
theorem k123_13 : decode (mB 123) 13 = .ok (.ireturn, 1) ∧ mR 123 = (some .int) := by decide +kernel
theorem k123_14 : decode (mB 123) 14 = .ok (.iload_n 2, 1) := by decide +kernel
theorem k123_15 : decode (mB 123) 15 = .ok (.tableswitch 69 0 3 #[29, 39, 49, 59], 29) := by decide +kernel
theorem k123_44 : decode (mB 123) 44 = .ok (.aload_n 0, 1) := by decide +kernel
theorem k123_45 : decode (mB 123) 45 = .ok (.getfield 54, 3) ∧ tF (mO 123) 54 = some (10, 5, 1, 1) := by decide +kernel
theorem k123_48 : decode (mB 123) 48 = .ok (.getfield 215, 3) ∧ tF (mO 123) 215 = some (8, 2, 1, 1) := by decide +kernel
theorem k123_51 : decode (mB 123) 51 = .ok (.iload_n 1, 1) := by decide +kernel
theorem k123_52 : decode (mB 123) 52 = .ok (.iaload, 1) := by decide +kernel
theorem k123_53 : decode (mB 123) 53 = .ok (.ireturn, 1) ∧ mR 123 = (some .int) := by decide +kernel
theorem k123_54 : decode (mB 123) 54 = .ok (.aload_n 0, 1) := by decide +kernel
theorem k123_55 : decode (mB 123) 55 = .ok (.getfield 54, 3) ∧ tF (mO 123) 54 = some (10, 5, 1, 1) := by decide +kernel
theorem k123_58 : decode (mB 123) 58 = .ok (.getfield 218, 3) ∧ tF (mO 123) 218 = some (8, 3, 1, 1) := by decide +kernel
theorem k123_61 : decode (mB 123) 61 = .ok (.iload_n 1, 1) := by decide +kernel
theorem k123_62 : decode (mB 123) 62 = .ok (.iaload, 1) := by decide +kernel
theorem k123_63 : decode (mB 123) 63 = .ok (.ireturn, 1) ∧ mR 123 = (some .int) := by decide +kernel
theorem k123_64 : decode (mB 123) 64 = .ok (.aload_n 0, 1) := by decide +kernel
theorem k123_65 : decode (mB 123) 65 = .ok (.getfield 54, 3) ∧ tF (mO 123) 54 = some (10, 5, 1, 1) := by decide +kernel
theorem k123_68 : decode (mB 123) 68 = .ok (.getfield 175, 3) ∧ tF (mO 123) 175 = some (8, 4, 1, 1) := by decide +kernel
theorem k123_71 : decode (mB 123) 71 = .ok (.iload_n 1, 1) := by decide +kernel
theorem k123_72 : decode (mB 123) 72 = .ok (.iaload, 1) := by decide +kernel
theorem k123_73 : decode (mB 123) 73 = .ok (.ireturn, 1) ∧ mR 123 = (some .int) := by decide +kernel
theorem k123_74 : decode (mB 123) 74 = .ok (.aload_n 0, 1) := by decide +kernel
theorem k123_75 : decode (mB 123) 75 = .ok (.getfield 54, 3) ∧ tF (mO 123) 54 = some (10, 5, 1, 1) := by decide +kernel
theorem k123_78 : decode (mB 123) 78 = .ok (.getfield 172, 3) ∧ tF (mO 123) 172 = some (8, 5, 1, 1) := by decide +kernel
theorem k123_81 : decode (mB 123) 81 = .ok (.iload_n 1, 1) := by decide +kernel
theorem k123_82 : decode (mB 123) 82 = .ok (.iaload, 1) := by decide +kernel
theorem k123_83 : decode (mB 123) 83 = .ok (.ireturn, 1) ∧ mR 123 = (some .int) := by decide +kernel
theorem k123_84 : decode (mB 123) 84 = .ok (.ldc 82, 2) ∧ tK (mO 123) 82 = some (-1000001) := by decide +kernel
theorem k123_86 : decode (mB 123) 86 = .ok (.ireturn, 1) ∧ mR 123 = (some .int) := by decide +kernel
-- 124: ChairPast.peace:()I, locals 1
theorem l124 : mL 124 = 1 := by decide +kernel
theorem k124_0 : decode (mB 124) 0 = .ok (.aload_n 0, 1) := by decide +kernel
theorem k124_1 : decode (mB 124) 1 = .ok (.getfield 54, 3) ∧ tF (mO 124) 54 = some (10, 5, 1, 1) := by decide +kernel
theorem k124_4 : decode (mB 124) 4 = .ok (.invokevirtual 221, 3) ∧ tVn (mO 124) 221 = some 0 ∧ tV (mO 124) 221 8 = some 83 := by decide +kernel
theorem k124_7 : decode (mB 124) 7 = .ok (.ifCond .eq 13, 3) := by decide +kernel
theorem k124_10 : decode (mB 124) 10 = .ok (.aload_n 0, 1) := by decide +kernel
theorem k124_11 : decode (mB 124) 11 = .ok (.getfield 54, 3) ∧ tF (mO 124) 54 = some (10, 5, 1, 1) := by decide +kernel
theorem k124_14 : decode (mB 124) 14 = .ok (.invokevirtual 193, 3) ∧ tVn (mO 124) 193 = some 0 ∧ tV (mO 124) 193 8 = some 92 := by decide +kernel
theorem k124_17 : decode (mB 124) 17 = .ok (.goto 5, 3) := by decide +kernel
theorem k124_20 : decode (mB 124) 20 = .ok (.ldc 164, 2) ∧ tK (mO 124) 164 = some (-1000002) := by decide +kernel
theorem k124_22 : decode (mB 124) 22 = .ok (.ireturn, 1) ∧ mR 124 = (some .int) := by decide +kernel
-- 125: ChairPast.would:(III)I, locals 4
theorem l125 : mL 125 = 4 := by decide +kernel
theorem k125_0 : decode (mB 125) 0 = .ok (.aload_n 0, 1) := by decide +kernel
theorem k125_1 : decode (mB 125) 1 = .ok (.getfield 54, 3) ∧ tF (mO 125) 54 = some (10, 5, 1, 1) := by decide +kernel
theorem k125_4 : decode (mB 125) 4 = .ok (.iload_n 1, 1) := by decide +kernel
theorem k125_5 : decode (mB 125) 5 = .ok (.invokevirtual 152, 3) ∧ tVn (mO 125) 152 = some 1 ∧ tV (mO 125) 152 8 = some 85 := by decide +kernel
theorem k125_8 : decode (mB 125) 8 = .ok (.ifCond .eq 23, 3) := by decide +kernel
theorem k125_11 : decode (mB 125) 11 = .ok (.aload_n 0, 1) := by decide +kernel
theorem k125_12 : decode (mB 125) 12 = .ok (.getfield 54, 3) ∧ tF (mO 125) 54 = some (10, 5, 1, 1) := by decide +kernel
theorem k125_15 : decode (mB 125) 15 = .ok (.iload_n 2, 1) := by decide +kernel
theorem k125_16 : decode (mB 125) 16 = .ok (.invokevirtual 155, 3) ∧ tVn (mO 125) 155 = some 1 ∧ tV (mO 125) 155 8 = some 84 := by decide +kernel
theorem k125_19 : decode (mB 125) 19 = .ok (.ifCond .eq 12, 3) := by decide +kernel
theorem k125_22 : decode (mB 125) 22 = .ok (.iload_n 3, 1) := by decide +kernel
theorem k125_23 : decode (mB 125) 23 = .ok (.iconst 0, 1) := by decide +kernel
theorem k125_24 : decode (mB 125) 24 = .ok (.iconst 2, 1) := by decide +kernel
theorem k125_25 : decode (mB 125) 25 = .ok (.invokestatic 78, 3) ∧ tM (mO 125) 78 = none ∧ tS (mO 125) 78 = some 143 := by decide +kernel
theorem k125_28 : decode (mB 125) 28 = .ok (.ifCond .ne 6, 3) := by decide +kernel
theorem k125_31 : decode (mB 125) 31 = .ok (.ldc 82, 2) ∧ tK (mO 125) 82 = some (-1000001) := by decide +kernel
theorem k125_33 : decode (mB 125) 33 = .ok (.ireturn, 1) ∧ mR 125 = (some .int) := by decide +kernel
theorem k125_34 : decode (mB 125) 34 = .ok (.aload_n 0, 1) := by decide +kernel
theorem k125_35 : decode (mB 125) 35 = .ok (.getfield 70, 3) ∧ tF (mO 125) 70 = some (10, 7, 1, 1) := by decide +kernel
theorem k125_38 : decode (mB 125) 38 = .ok (.iload_n 1, 1) := by decide +kernel
theorem k125_39 : decode (mB 125) 39 = .ok (.iload_n 2, 1) := by decide +kernel
theorem k125_40 : decode (mB 125) 40 = .ok (.iload_n 3, 1) := by decide +kernel
theorem k125_41 : decode (mB 125) 41 = .ok (.invokevirtual 224, 3) ∧ tVn (mO 125) 224 = some 3 ∧ tV (mO 125) 224 3 = some 20 := by decide +kernel
theorem k125_44 : decode (mB 125) 44 = .ok (.ireturn, 1) ∧ mR 125 = (some .int) := by decide +kernel
-- 126: ChairPast.seating:(I)I, locals 2
theorem l126 : mL 126 = 2 := by decide +kernel
theorem k126_0 : decode (mB 126) 0 = .ok (.aload_n 0, 1) := by decide +kernel
theorem k126_1 : decode (mB 126) 1 = .ok (.getfield 54, 3) ∧ tF (mO 126) 54 = some (10, 5, 1, 1) := by decide +kernel
theorem k126_4 : decode (mB 126) 4 = .ok (.invokevirtual 221, 3) ∧ tVn (mO 126) 221 = some 0 ∧ tV (mO 126) 221 8 = some 83 := by decide +kernel
theorem k126_7 : decode (mB 126) 7 = .ok (.ifCond .ne 6, 3) := by decide +kernel
theorem k126_10 : decode (mB 126) 10 = .ok (.ldc 164, 2) ∧ tK (mO 126) 164 = some (-1000002) := by decide +kernel
theorem k126_12 : decode (mB 126) 12 = .ok (.ireturn, 1) ∧ mR 126 = (some .int) := by decide +kernel
theorem k126_13 : decode (mB 126) 13 = .ok (.iload_n 1, 1) := by decide +kernel
theorem k126_14 : decode (mB 126) 14 = .ok (.iconst (-1), 1) := by decide +kernel
theorem k126_15 : decode (mB 126) 15 = .ok (.iconst 4, 1) := by decide +kernel
theorem k126_16 : decode (mB 126) 16 = .ok (.invokestatic 78, 3) ∧ tM (mO 126) 78 = none ∧ tS (mO 126) 78 = some 143 := by decide +kernel
theorem k126_19 : decode (mB 126) 19 = .ok (.ifCond .ne 6, 3) := by decide +kernel
theorem k126_22 : decode (mB 126) 22 = .ok (.ldc 82, 2) ∧ tK (mO 126) 82 = some (-1000001) := by decide +kernel
theorem k126_24 : decode (mB 126) 24 = .ok (.ireturn, 1) ∧ mR 126 = (some .int) := by decide +kernel
theorem k126_25 : decode (mB 126) 25 = .ok (.aload_n 0, 1) := by decide +kernel
theorem k126_26 : decode (mB 126) 26 = .ok (.getfield 70, 3) ∧ tF (mO 126) 70 = some (10, 7, 1, 1) := by decide +kernel
theorem k126_29 : decode (mB 126) 29 = .ok (.iload_n 1, 1) := by decide +kernel
theorem k126_30 : decode (mB 126) 30 = .ok (.invokevirtual 228, 3) ∧ tVn (mO 126) 228 = some 1 ∧ tV (mO 126) 228 3 = some 21 := by decide +kernel
theorem k126_33 : decode (mB 126) 33 = .ok (.ireturn, 1) ∧ mR 126 = (some .int) := by decide +kernel
-- 127: ChairPast.warm:(IIII)I, locals 6
theorem l127 : mL 127 = 6 := by decide +kernel
theorem k127_0 : decode (mB 127) 0 = .ok (.aload_n 0, 1) := by decide +kernel
theorem k127_1 : decode (mB 127) 1 = .ok (.getfield 54, 3) ∧ tF (mO 127) 54 = some (10, 5, 1, 1) := by decide +kernel
theorem k127_4 : decode (mB 127) 4 = .ok (.iload_n 1, 1) := by decide +kernel
theorem k127_5 : decode (mB 127) 5 = .ok (.invokevirtual 152, 3) ∧ tVn (mO 127) 152 = some 1 ∧ tV (mO 127) 152 8 = some 85 := by decide +kernel
theorem k127_8 : decode (mB 127) 8 = .ok (.ifCond .eq 34, 3) := by decide +kernel
theorem k127_11 : decode (mB 127) 11 = .ok (.aload_n 0, 1) := by decide +kernel
theorem k127_12 : decode (mB 127) 12 = .ok (.getfield 54, 3) ∧ tF (mO 127) 54 = some (10, 5, 1, 1) := by decide +kernel
theorem k127_15 : decode (mB 127) 15 = .ok (.iload_n 2, 1) := by decide +kernel
theorem k127_16 : decode (mB 127) 16 = .ok (.invokevirtual 155, 3) ∧ tVn (mO 127) 155 = some 1 ∧ tV (mO 127) 155 8 = some 84 := by decide +kernel
theorem k127_19 : decode (mB 127) 19 = .ok (.ifCond .eq 23, 3) := by decide +kernel
theorem k127_22 : decode (mB 127) 22 = .ok (.iload_n 3, 1) := by decide +kernel
theorem k127_23 : decode (mB 127) 23 = .ok (.iconst 0, 1) := by decide +kernel
theorem k127_24 : decode (mB 127) 24 = .ok (.bipush 9, 2) := by decide +kernel
theorem k127_26 : decode (mB 127) 26 = .ok (.invokestatic 78, 3) ∧ tM (mO 127) 78 = none ∧ tS (mO 127) 78 = some 143 := by decide +kernel
theorem k127_29 : decode (mB 127) 29 = .ok (.ifCond .eq 13, 3) := by decide +kernel
theorem k127_32 : decode (mB 127) 32 = .ok (.iload 4, 2) := by decide +kernel
theorem k127_34 : decode (mB 127) 34 = .ok (.iconst (-1), 1) := by decide +kernel
theorem k127_35 : decode (mB 127) 35 = .ok (.iconst 2, 1) := by decide +kernel
theorem k127_36 : decode (mB 127) 36 = .ok (.invokestatic 78, 3) ∧ tM (mO 127) 78 = none ∧ tS (mO 127) 78 = some 143 := by decide +kernel
theorem k127_39 : decode (mB 127) 39 = .ok (.ifCond .ne 6, 3) := by decide +kernel
theorem k127_42 : decode (mB 127) 42 = .ok (.ldc 82, 2) ∧ tK (mO 127) 82 = some (-1000001) := by decide +kernel
theorem k127_44 : decode (mB 127) 44 = .ok (.ireturn, 1) ∧ mR 127 = (some .int) := by decide +kernel
theorem k127_45 : decode (mB 127) 45 = .ok (.aload_n 0, 1) := by decide +kernel
theorem k127_46 : decode (mB 127) 46 = .ok (.getfield 70, 3) ∧ tF (mO 127) 70 = some (10, 7, 1, 1) := by decide +kernel
theorem k127_49 : decode (mB 127) 49 = .ok (.iload_n 1, 1) := by decide +kernel
theorem k127_50 : decode (mB 127) 50 = .ok (.iload_n 2, 1) := by decide +kernel
theorem k127_51 : decode (mB 127) 51 = .ok (.iload_n 3, 1) := by decide +kernel
theorem k127_52 : decode (mB 127) 52 = .ok (.invokevirtual 231, 3) ∧ tVn (mO 127) 231 = some 3 ∧ tV (mO 127) 231 3 = some 24 := by decide +kernel
theorem k127_55 : decode (mB 127) 55 = .ok (.istore 5, 2) := by decide +kernel
theorem k127_57 : decode (mB 127) 57 = .ok (.iload 4, 2) := by decide +kernel
theorem k127_59 : decode (mB 127) 59 = .ok (.iconst (-1), 1) := by decide +kernel
theorem k127_60 : decode (mB 127) 60 = .ok (.if_icmp .eq 10, 3) := by decide +kernel
theorem k127_63 : decode (mB 127) 63 = .ok (.iload 5, 2) := by decide +kernel
theorem k127_65 : decode (mB 127) 65 = .ok (.ldc 234, 2) ∧ tK (mO 127) 234 = some (-1000000) := by decide +kernel
theorem k127_67 : decode (mB 127) 67 = .ok (.if_icmp .ne 6, 3) := by decide +kernel
theorem k127_70 : decode (mB 127) 70 = .ok (.iload 5, 2) := by decide +kernel
theorem k127_72 : decode (mB 127) 72 = .ok (.ireturn, 1) ∧ mR 127 = (some .int) := by decide +kernel
theorem k127_73 : decode (mB 127) 73 = .ok (.iload 4, 2) := by decide +kernel
theorem k127_75 : decode (mB 127) 75 = .ok (.iload 5, 2) := by decide +kernel
theorem k127_77 : decode (mB 127) 77 = .ok (.if_icmp .ge 15, 3) := by decide +kernel
theorem k127_80 : decode (mB 127) 80 = .ok (.aload_n 0, 1) := by decide +kernel
theorem k127_81 : decode (mB 127) 81 = .ok (.getfield 70, 3) ∧ tF (mO 127) 70 = some (10, 7, 1, 1) := by decide +kernel
theorem k127_84 : decode (mB 127) 84 = .ok (.iload 4, 2) := by decide +kernel
theorem k127_86 : decode (mB 127) 86 = .ok (.invokevirtual 235, 3) ∧ tVn (mO 127) 235 = some 1 ∧ tV (mO 127) 235 3 = some 25 := by decide +kernel
theorem k127_89 : decode (mB 127) 89 = .ok (.goto 5, 3) := by decide +kernel
theorem k127_92 : decode (mB 127) 92 = .ok (.ldc 234, 2) ∧ tK (mO 127) 234 = some (-1000000) := by decide +kernel
theorem k127_94 : decode (mB 127) 94 = .ok (.ireturn, 1) ∧ mR 127 = (some .int) := by decide +kernel
end
section
-- 128: ChairPast.pure:(II)I, locals 3
theorem l128 : mL 128 = 3 := by decide +kernel
theorem k128_0 : decode (mB 128) 0 = .ok (.aload_n 0, 1) := by decide +kernel
theorem k128_1 : decode (mB 128) 1 = .ok (.getfield 54, 3) ∧ tF (mO 128) 54 = some (10, 5, 1, 1) := by decide +kernel
theorem k128_4 : decode (mB 128) 4 = .ok (.iload_n 1, 1) := by decide +kernel
theorem k128_5 : decode (mB 128) 5 = .ok (.invokevirtual 152, 3) ∧ tVn (mO 128) 152 = some 1 ∧ tV (mO 128) 152 8 = some 85 := by decide +kernel
theorem k128_8 : decode (mB 128) 8 = .ok (.ifCond .eq 14, 3) := by decide +kernel
theorem k128_11 : decode (mB 128) 11 = .ok (.aload_n 0, 1) := by decide +kernel
theorem k128_12 : decode (mB 128) 12 = .ok (.getfield 54, 3) ∧ tF (mO 128) 54 = some (10, 5, 1, 1) := by decide +kernel
theorem k128_15 : decode (mB 128) 15 = .ok (.iload_n 2, 1) := by decide +kernel
theorem k128_16 : decode (mB 128) 16 = .ok (.invokevirtual 155, 3) ∧ tVn (mO 128) 155 = some 1 ∧ tV (mO 128) 155 8 = some 84 := by decide +kernel
theorem k128_19 : decode (mB 128) 19 = .ok (.ifCond .ne 6, 3) := by decide +kernel
theorem k128_22 : decode (mB 128) 22 = .ok (.ldc 82, 2) ∧ tK (mO 128) 82 = some (-1000001) := by decide +kernel
theorem k128_24 : decode (mB 128) 24 = .ok (.ireturn, 1) ∧ mR 128 = (some .int) := by decide +kernel
theorem k128_25 : decode (mB 128) 25 = .ok (.aload_n 0, 1) := by decide +kernel
theorem k128_26 : decode (mB 128) 26 = .ok (.getfield 70, 3) ∧ tF (mO 128) 70 = some (10, 7, 1, 1) := by decide +kernel
theorem k128_29 : decode (mB 128) 29 = .ok (.iload_n 1, 1) := by decide +kernel
theorem k128_30 : decode (mB 128) 30 = .ok (.iload_n 2, 1) := by decide +kernel
theorem k128_31 : decode (mB 128) 31 = .ok (.invokevirtual 238, 3) ∧ tVn (mO 128) 238 = some 2 ∧ tV (mO 128) 238 3 = some 28 := by decide +kernel
theorem k128_34 : decode (mB 128) 34 = .ok (.ireturn, 1) ∧ mR 128 = (some .int) := by decide +kernel
-- 129: ChairPast.between:(IIII)I, locals 5
theorem l129 : mL 129 = 5 := by decide +kernel
theorem k129_0 : decode (mB 129) 0 = .ok (.aload_n 0, 1) := by decide +kernel
theorem k129_1 : decode (mB 129) 1 = .ok (.getfield 54, 3) ∧ tF (mO 129) 54 = some (10, 5, 1, 1) := by decide +kernel
theorem k129_4 : decode (mB 129) 4 = .ok (.iload_n 1, 1) := by decide +kernel
theorem k129_5 : decode (mB 129) 5 = .ok (.invokevirtual 155, 3) ∧ tVn (mO 129) 155 = some 1 ∧ tV (mO 129) 155 8 = some 84 := by decide +kernel
theorem k129_8 : decode (mB 129) 8 = .ok (.ifCond .eq 33, 3) := by decide +kernel
theorem k129_11 : decode (mB 129) 11 = .ok (.iload_n 2, 1) := by decide +kernel
theorem k129_12 : decode (mB 129) 12 = .ok (.iconst 0, 1) := by decide +kernel
theorem k129_13 : decode (mB 129) 13 = .ok (.bipush 9, 2) := by decide +kernel
theorem k129_15 : decode (mB 129) 15 = .ok (.invokestatic 78, 3) ∧ tM (mO 129) 78 = none ∧ tS (mO 129) 78 = some 143 := by decide +kernel
theorem k129_18 : decode (mB 129) 18 = .ok (.ifCond .eq 23, 3) := by decide +kernel
theorem k129_21 : decode (mB 129) 21 = .ok (.iload_n 3, 1) := by decide +kernel
theorem k129_22 : decode (mB 129) 22 = .ok (.iconst 0, 1) := by decide +kernel
theorem k129_23 : decode (mB 129) 23 = .ok (.bipush 16, 2) := by decide +kernel
theorem k129_25 : decode (mB 129) 25 = .ok (.invokestatic 78, 3) ∧ tM (mO 129) 78 = none ∧ tS (mO 129) 78 = some 143 := by decide +kernel
theorem k129_28 : decode (mB 129) 28 = .ok (.ifCond .eq 13, 3) := by decide +kernel
theorem k129_31 : decode (mB 129) 31 = .ok (.iload 4, 2) := by decide +kernel
theorem k129_33 : decode (mB 129) 33 = .ok (.iconst 0, 1) := by decide +kernel
theorem k129_34 : decode (mB 129) 34 = .ok (.iconst 1, 1) := by decide +kernel
theorem k129_35 : decode (mB 129) 35 = .ok (.invokestatic 78, 3) ∧ tM (mO 129) 78 = none ∧ tS (mO 129) 78 = some 143 := by decide +kernel
theorem k129_38 : decode (mB 129) 38 = .ok (.ifCond .ne 6, 3) := by decide +kernel
theorem k129_41 : decode (mB 129) 41 = .ok (.ldc 82, 2) ∧ tK (mO 129) 82 = some (-1000001) := by decide +kernel
theorem k129_43 : decode (mB 129) 43 = .ok (.ireturn, 1) ∧ mR 129 = (some .int) := by decide +kernel
theorem k129_44 : decode (mB 129) 44 = .ok (.iload 4, 2) := by decide +kernel
theorem k129_46 : decode (mB 129) 46 = .ok (.ifCond .ne 16, 3) := by decide +kernel
theorem k129_49 : decode (mB 129) 49 = .ok (.aload_n 0, 1) := by decide +kernel
theorem k129_50 : decode (mB 129) 50 = .ok (.getfield 70, 3) ∧ tF (mO 129) 70 = some (10, 7, 1, 1) := by decide +kernel
theorem k129_53 : decode (mB 129) 53 = .ok (.iload_n 1, 1) := by decide +kernel
theorem k129_54 : decode (mB 129) 54 = .ok (.iload_n 2, 1) := by decide +kernel
theorem k129_55 : decode (mB 129) 55 = .ok (.iload_n 3, 1) := by decide +kernel
theorem k129_56 : decode (mB 129) 56 = .ok (.invokevirtual 241, 3) ∧ tVn (mO 129) 241 = some 3 ∧ tV (mO 129) 241 3 = some 29 := by decide +kernel
theorem k129_59 : decode (mB 129) 59 = .ok (.goto 13, 3) := by decide +kernel
theorem k129_62 : decode (mB 129) 62 = .ok (.aload_n 0, 1) := by decide +kernel
theorem k129_63 : decode (mB 129) 63 = .ok (.getfield 70, 3) ∧ tF (mO 129) 70 = some (10, 7, 1, 1) := by decide +kernel
theorem k129_66 : decode (mB 129) 66 = .ok (.iload_n 1, 1) := by decide +kernel
theorem k129_67 : decode (mB 129) 67 = .ok (.iload_n 2, 1) := by decide +kernel
theorem k129_68 : decode (mB 129) 68 = .ok (.iload_n 3, 1) := by decide +kernel
theorem k129_69 : decode (mB 129) 69 = .ok (.invokevirtual 244, 3) ∧ tVn (mO 129) 244 = some 3 ∧ tV (mO 129) 244 3 = some 30 := by decide +kernel
theorem k129_72 : decode (mB 129) 72 = .ok (.ireturn, 1) ∧ mR 129 = (some .int) := by decide +kernel
-- 130: ChairPast.trios:(I)I, locals 2
theorem l130 : mL 130 = 2 := by decide +kernel
theorem k130_0 : decode (mB 130) 0 = .ok (.aload_n 0, 1) := by decide +kernel
theorem k130_1 : decode (mB 130) 1 = .ok (.getfield 54, 3) ∧ tF (mO 130) 54 = some (10, 5, 1, 1) := by decide +kernel
theorem k130_4 : decode (mB 130) 4 = .ok (.invokevirtual 221, 3) ∧ tVn (mO 130) 221 = some 0 ∧ tV (mO 130) 221 8 = some 83 := by decide +kernel
theorem k130_7 : decode (mB 130) 7 = .ok (.ifCond .ne 6, 3) := by decide +kernel
theorem k130_10 : decode (mB 130) 10 = .ok (.ldc 164, 2) ∧ tK (mO 130) 164 = some (-1000002) := by decide +kernel
theorem k130_12 : decode (mB 130) 12 = .ok (.ireturn, 1) ∧ mR 130 = (some .int) := by decide +kernel
theorem k130_13 : decode (mB 130) 13 = .ok (.iload_n 1, 1) := by decide +kernel
theorem k130_14 : decode (mB 130) 14 = .ok (.iconst 0, 1) := by decide +kernel
theorem k130_15 : decode (mB 130) 15 = .ok (.iconst 1, 1) := by decide +kernel
theorem k130_16 : decode (mB 130) 16 = .ok (.invokestatic 78, 3) ∧ tM (mO 130) 78 = none ∧ tS (mO 130) 78 = some 143 := by decide +kernel
theorem k130_19 : decode (mB 130) 19 = .ok (.ifCond .ne 6, 3) := by decide +kernel
theorem k130_22 : decode (mB 130) 22 = .ok (.ldc 82, 2) ∧ tK (mO 130) 82 = some (-1000001) := by decide +kernel
theorem k130_24 : decode (mB 130) 24 = .ok (.ireturn, 1) ∧ mR 130 = (some .int) := by decide +kernel
theorem k130_25 : decode (mB 130) 25 = .ok (.iload_n 1, 1) := by decide +kernel
theorem k130_26 : decode (mB 130) 26 = .ok (.ifCond .ne 13, 3) := by decide +kernel
theorem k130_29 : decode (mB 130) 29 = .ok (.aload_n 0, 1) := by decide +kernel
theorem k130_30 : decode (mB 130) 30 = .ok (.getfield 54, 3) ∧ tF (mO 130) 54 = some (10, 5, 1, 1) := by decide +kernel
theorem k130_33 : decode (mB 130) 33 = .ok (.invokevirtual 247, 3) ∧ tVn (mO 130) 247 = some 0 ∧ tV (mO 130) 247 8 = some 95 := by decide +kernel
theorem k130_36 : decode (mB 130) 36 = .ok (.goto 10, 3) := by decide +kernel
theorem k130_39 : decode (mB 130) 39 = .ok (.aload_n 0, 1) := by decide +kernel
theorem k130_40 : decode (mB 130) 40 = .ok (.getfield 54, 3) ∧ tF (mO 130) 54 = some (10, 5, 1, 1) := by decide +kernel
theorem k130_43 : decode (mB 130) 43 = .ok (.invokevirtual 250, 3) ∧ tVn (mO 130) 250 = some 0 ∧ tV (mO 130) 250 8 = some 96 := by decide +kernel
theorem k130_46 : decode (mB 130) 46 = .ok (.ireturn, 1) ∧ mR 130 = (some .int) := by decide +kernel
-- 131: ChairPast.owns:(III)I, locals 5
theorem l131 : mL 131 = 5 := by decide +kernel
theorem k131_0 : decode (mB 131) 0 = .ok (.aload_n 0, 1) := by decide +kernel
theorem k131_1 : decode (mB 131) 1 = .ok (.getfield 54, 3) ∧ tF (mO 131) 54 = some (10, 5, 1, 1) := by decide +kernel
theorem k131_4 : decode (mB 131) 4 = .ok (.iload_n 1, 1) := by decide +kernel
theorem k131_5 : decode (mB 131) 5 = .ok (.invokevirtual 152, 3) ∧ tVn (mO 131) 152 = some 1 ∧ tV (mO 131) 152 8 = some 85 := by decide +kernel
theorem k131_8 : decode (mB 131) 8 = .ok (.ifCond .eq 10, 3) := by decide +kernel
theorem k131_11 : decode (mB 131) 11 = .ok (.iload_n 2, 1) := by decide +kernel
theorem k131_12 : decode (mB 131) 12 = .ok (.invokestatic 74, 3) ∧ tM (mO 131) 74 = none ∧ tS (mO 131) 74 = some 144 := by decide +kernel
theorem k131_15 : decode (mB 131) 15 = .ok (.ifCond .ne 6, 3) := by decide +kernel
theorem k131_18 : decode (mB 131) 18 = .ok (.ldc 82, 2) ∧ tK (mO 131) 82 = some (-1000001) := by decide +kernel
theorem k131_20 : decode (mB 131) 20 = .ok (.ireturn, 1) ∧ mR 131 = (some .int) := by decide +kernel
theorem k131_21 : decode (mB 131) 21 = .ok (.aload_n 0, 1) := by decide +kernel
theorem k131_22 : decode (mB 131) 22 = .ok (.iload_n 2, 1) := by decide +kernel
theorem k131_23 : decode (mB 131) 23 = .ok (.iload_n 3, 1) := by decide +kernel
theorem k131_24 : decode (mB 131) 24 = .ok (.aload_n 0, 1) := by decide +kernel
theorem k131_25 : decode (mB 131) 25 = .ok (.getfield 54, 3) ∧ tF (mO 131) 54 = some (10, 5, 1, 1) := by decide +kernel
theorem k131_28 : decode (mB 131) 28 = .ok (.getfield 149, 3) ∧ tF (mO 131) 149 = some (8, 6, 0, 0) := by decide +kernel
theorem k131_31 : decode (mB 131) 31 = .ok (.invokevirtual 253, 3) ∧ tVn (mO 131) 253 = some 3 ∧ tV (mO 131) 253 10 = some 148 := by decide +kernel
theorem k131_34 : decode (mB 131) 34 = .ok (.istore 4, 2) := by decide +kernel
theorem k131_36 : decode (mB 131) 36 = .ok (.iload 4, 2) := by decide +kernel
theorem k131_38 : decode (mB 131) 38 = .ok (.ifCond .eq 12, 3) := by decide +kernel
theorem k131_41 : decode (mB 131) 41 = .ok (.aload_n 0, 1) := by decide +kernel
theorem k131_42 : decode (mB 131) 42 = .ok (.iload 4, 2) := by decide +kernel
theorem k131_44 : decode (mB 131) 44 = .ok (.invokevirtual 83, 3) ∧ tVn (mO 131) 83 = some 1 ∧ tV (mO 131) 83 10 = some 149 := by decide +kernel
theorem k131_47 : decode (mB 131) 47 = .ok (.goto 24, 3) := by decide +kernel
theorem k131_50 : decode (mB 131) 50 = .ok (.aload_n 0, 1) := by decide +kernel
theorem k131_51 : decode (mB 131) 51 = .ok (.aload_n 0, 1) := by decide +kernel
theorem k131_52 : decode (mB 131) 52 = .ok (.getfield 70, 3) ∧ tF (mO 131) 70 = some (10, 7, 1, 1) := by decide +kernel
theorem k131_55 : decode (mB 131) 55 = .ok (.aload_n 0, 1) := by decide +kernel
theorem k131_56 : decode (mB 131) 56 = .ok (.getfield 11, 3) ∧ tF (mO 131) 11 = some (10, 0, 1, 1) := by decide +kernel
theorem k131_59 : decode (mB 131) 59 = .ok (.iload_n 2, 1) := by decide +kernel
theorem k131_60 : decode (mB 131) 60 = .ok (.aaload, 1) := by decide +kernel
theorem k131_61 : decode (mB 131) 61 = .ok (.getfield 103, 3) ∧ tF (mO 131) 103 = some (4, 0, 1, 1) := by decide +kernel
theorem k131_64 : decode (mB 131) 64 = .ok (.iload_n 3, 1) := by decide +kernel
theorem k131_65 : decode (mB 131) 65 = .ok (.invokevirtual 256, 3) ∧ tVn (mO 131) 256 = some 2 ∧ tV (mO 131) 256 3 = some 31 := by decide +kernel
theorem k131_68 : decode (mB 131) 68 = .ok (.invokevirtual 93, 3) ∧ tVn (mO 131) 93 = some 1 ∧ tV (mO 131) 93 10 = some 150 := by decide +kernel
theorem k131_71 : decode (mB 131) 71 = .ok (.ireturn, 1) ∧ mR 131 = (some .int) := by decide +kernel
-- 132: ChairPast.fits:(IIII)I, locals 6
theorem l132 : mL 132 = 6 := by decide +kernel
theorem k132_0 : decode (mB 132) 0 = .ok (.aload_n 0, 1) := by decide +kernel
theorem k132_1 : decode (mB 132) 1 = .ok (.getfield 54, 3) ∧ tF (mO 132) 54 = some (10, 5, 1, 1) := by decide +kernel
theorem k132_4 : decode (mB 132) 4 = .ok (.iload_n 1, 1) := by decide +kernel
theorem k132_5 : decode (mB 132) 5 = .ok (.invokevirtual 155, 3) ∧ tVn (mO 132) 155 = some 1 ∧ tV (mO 132) 155 8 = some 84 := by decide +kernel
theorem k132_8 : decode (mB 132) 8 = .ok (.ifCond .eq 20, 3) := by decide +kernel
theorem k132_11 : decode (mB 132) 11 = .ok (.iload_n 2, 1) := by decide +kernel
theorem k132_12 : decode (mB 132) 12 = .ok (.invokestatic 74, 3) ∧ tM (mO 132) 74 = none ∧ tS (mO 132) 74 = some 144 := by decide +kernel
theorem k132_15 : decode (mB 132) 15 = .ok (.ifCond .eq 13, 3) := by decide +kernel
theorem k132_18 : decode (mB 132) 18 = .ok (.iload 4, 2) := by decide +kernel
theorem k132_20 : decode (mB 132) 20 = .ok (.iconst 0, 1) := by decide +kernel
theorem k132_21 : decode (mB 132) 21 = .ok (.iconst 2, 1) := by decide +kernel
theorem k132_22 : decode (mB 132) 22 = .ok (.invokestatic 78, 3) ∧ tM (mO 132) 78 = none ∧ tS (mO 132) 78 = some 143 := by decide +kernel
theorem k132_25 : decode (mB 132) 25 = .ok (.ifCond .ne 6, 3) := by decide +kernel
theorem k132_28 : decode (mB 132) 28 = .ok (.ldc 82, 2) ∧ tK (mO 132) 82 = some (-1000001) := by decide +kernel
theorem k132_30 : decode (mB 132) 30 = .ok (.ireturn, 1) ∧ mR 132 = (some .int) := by decide +kernel
theorem k132_31 : decode (mB 132) 31 = .ok (.aload_n 0, 1) := by decide +kernel
theorem k132_32 : decode (mB 132) 32 = .ok (.iload_n 2, 1) := by decide +kernel
theorem k132_33 : decode (mB 132) 33 = .ok (.iload_n 3, 1) := by decide +kernel
theorem k132_34 : decode (mB 132) 34 = .ok (.aload_n 0, 1) := by decide +kernel
theorem k132_35 : decode (mB 132) 35 = .ok (.getfield 54, 3) ∧ tF (mO 132) 54 = some (10, 5, 1, 1) := by decide +kernel
theorem k132_38 : decode (mB 132) 38 = .ok (.getfield 260, 3) ∧ tF (mO 132) 260 = some (8, 7, 0, 0) := by decide +kernel
theorem k132_41 : decode (mB 132) 41 = .ok (.invokevirtual 253, 3) ∧ tVn (mO 132) 253 = some 3 ∧ tV (mO 132) 253 10 = some 148 := by decide +kernel
theorem k132_44 : decode (mB 132) 44 = .ok (.istore 5, 2) := by decide +kernel
theorem k132_46 : decode (mB 132) 46 = .ok (.iload 5, 2) := by decide +kernel
theorem k132_48 : decode (mB 132) 48 = .ok (.ifCond .eq 12, 3) := by decide +kernel
theorem k132_51 : decode (mB 132) 51 = .ok (.aload_n 0, 1) := by decide +kernel
theorem k132_52 : decode (mB 132) 52 = .ok (.iload 5, 2) := by decide +kernel
theorem k132_54 : decode (mB 132) 54 = .ok (.invokevirtual 83, 3) ∧ tVn (mO 132) 83 = some 1 ∧ tV (mO 132) 83 10 = some 149 := by decide +kernel
theorem k132_57 : decode (mB 132) 57 = .ok (.goto 27, 3) := by decide +kernel
theorem k132_60 : decode (mB 132) 60 = .ok (.aload_n 0, 1) := by decide +kernel
theorem k132_61 : decode (mB 132) 61 = .ok (.aload_n 0, 1) := by decide +kernel
theorem k132_62 : decode (mB 132) 62 = .ok (.getfield 70, 3) ∧ tF (mO 132) 70 = some (10, 7, 1, 1) := by decide +kernel
theorem k132_65 : decode (mB 132) 65 = .ok (.iload_n 1, 1) := by decide +kernel
theorem k132_66 : decode (mB 132) 66 = .ok (.aload_n 0, 1) := by decide +kernel
theorem k132_67 : decode (mB 132) 67 = .ok (.getfield 11, 3) ∧ tF (mO 132) 11 = some (10, 0, 1, 1) := by decide +kernel
theorem k132_70 : decode (mB 132) 70 = .ok (.iload_n 2, 1) := by decide +kernel
theorem k132_71 : decode (mB 132) 71 = .ok (.aaload, 1) := by decide +kernel
theorem k132_72 : decode (mB 132) 72 = .ok (.getfield 103, 3) ∧ tF (mO 132) 103 = some (4, 0, 1, 1) := by decide +kernel
theorem k132_75 : decode (mB 132) 75 = .ok (.iload_n 3, 1) := by decide +kernel
theorem k132_76 : decode (mB 132) 76 = .ok (.iload 4, 2) := by decide +kernel
theorem k132_78 : decode (mB 132) 78 = .ok (.invokevirtual 263, 3) ∧ tVn (mO 132) 263 = some 4 ∧ tV (mO 132) 263 3 = some 33 := by decide +kernel
theorem k132_81 : decode (mB 132) 81 = .ok (.invokevirtual 93, 3) ∧ tVn (mO 132) 93 = some 1 ∧ tV (mO 132) 93 10 = some 150 := by decide +kernel
theorem k132_84 : decode (mB 132) 84 = .ok (.ireturn, 1) ∧ mR 132 = (some .int) := by decide +kernel
-- 133: ChairPast.caned:(III)I, locals 4
theorem l133 : mL 133 = 4 := by decide +kernel
theorem k133_0 : decode (mB 133) 0 = .ok (.aload_n 0, 1) := by decide +kernel
theorem k133_1 : decode (mB 133) 1 = .ok (.getfield 54, 3) ∧ tF (mO 133) 54 = some (10, 5, 1, 1) := by decide +kernel
theorem k133_4 : decode (mB 133) 4 = .ok (.invokevirtual 221, 3) ∧ tVn (mO 133) 221 = some 0 ∧ tV (mO 133) 221 8 = some 83 := by decide +kernel
theorem k133_7 : decode (mB 133) 7 = .ok (.ifCond .ne 6, 3) := by decide +kernel
theorem k133_10 : decode (mB 133) 10 = .ok (.ldc 164, 2) ∧ tK (mO 133) 164 = some (-1000002) := by decide +kernel
theorem k133_12 : decode (mB 133) 12 = .ok (.ireturn, 1) ∧ mR 133 = (some .int) := by decide +kernel
theorem k133_13 : decode (mB 133) 13 = .ok (.iload_n 1, 1) := by decide +kernel
theorem k133_14 : decode (mB 133) 14 = .ok (.iconst 0, 1) := by decide +kernel
theorem k133_15 : decode (mB 133) 15 = .ok (.bipush 40, 2) := by decide +kernel
theorem k133_17 : decode (mB 133) 17 = .ok (.invokestatic 78, 3) ∧ tM (mO 133) 78 = none ∧ tS (mO 133) 78 = some 143 := by decide +kernel
theorem k133_20 : decode (mB 133) 20 = .ok (.ifCond .eq 22, 3) := by decide +kernel
theorem k133_23 : decode (mB 133) 23 = .ok (.iload_n 2, 1) := by decide +kernel
theorem k133_24 : decode (mB 133) 24 = .ok (.iconst 0, 1) := by decide +kernel
theorem k133_25 : decode (mB 133) 25 = .ok (.bipush 10, 2) := by decide +kernel
theorem k133_27 : decode (mB 133) 27 = .ok (.invokestatic 78, 3) ∧ tM (mO 133) 78 = none ∧ tS (mO 133) 78 = some 143 := by decide +kernel
theorem k133_30 : decode (mB 133) 30 = .ok (.ifCond .eq 12, 3) := by decide +kernel
theorem k133_33 : decode (mB 133) 33 = .ok (.iload_n 3, 1) := by decide +kernel
theorem k133_34 : decode (mB 133) 34 = .ok (.iconst 0, 1) := by decide +kernel
theorem k133_35 : decode (mB 133) 35 = .ok (.iconst 1, 1) := by decide +kernel
theorem k133_36 : decode (mB 133) 36 = .ok (.invokestatic 78, 3) ∧ tM (mO 133) 78 = none ∧ tS (mO 133) 78 = some 143 := by decide +kernel
theorem k133_39 : decode (mB 133) 39 = .ok (.ifCond .ne 6, 3) := by decide +kernel
theorem k133_42 : decode (mB 133) 42 = .ok (.ldc 82, 2) ∧ tK (mO 133) 82 = some (-1000001) := by decide +kernel
theorem k133_44 : decode (mB 133) 44 = .ok (.ireturn, 1) ∧ mR 133 = (some .int) := by decide +kernel
theorem k133_45 : decode (mB 133) 45 = .ok (.aload_n 0, 1) := by decide +kernel
theorem k133_46 : decode (mB 133) 46 = .ok (.getfield 70, 3) ∧ tF (mO 133) 70 = some (10, 7, 1, 1) := by decide +kernel
theorem k133_49 : decode (mB 133) 49 = .ok (.iload_n 1, 1) := by decide +kernel
theorem k133_50 : decode (mB 133) 50 = .ok (.iload_n 2, 1) := by decide +kernel
theorem k133_51 : decode (mB 133) 51 = .ok (.iload_n 3, 1) := by decide +kernel
theorem k133_52 : decode (mB 133) 52 = .ok (.invokevirtual 267, 3) ∧ tVn (mO 133) 267 = some 3 ∧ tV (mO 133) 267 3 = some 36 := by decide +kernel
theorem k133_55 : decode (mB 133) 55 = .ok (.ireturn, 1) ∧ mR 133 = (some .int) := by decide +kernel
-- 134: ChairPast.drawn:(III)I, locals 4
theorem l134 : mL 134 = 4 := by decide +kernel
theorem k134_0 : decode (mB 134) 0 = .ok (.aload_n 0, 1) := by decide +kernel
theorem k134_1 : decode (mB 134) 1 = .ok (.getfield 54, 3) ∧ tF (mO 134) 54 = some (10, 5, 1, 1) := by decide +kernel
theorem k134_4 : decode (mB 134) 4 = .ok (.invokevirtual 221, 3) ∧ tVn (mO 134) 221 = some 0 ∧ tV (mO 134) 221 8 = some 83 := by decide +kernel
theorem k134_7 : decode (mB 134) 7 = .ok (.ifCond .ne 6, 3) := by decide +kernel
theorem k134_10 : decode (mB 134) 10 = .ok (.ldc 164, 2) ∧ tK (mO 134) 164 = some (-1000002) := by decide +kernel
theorem k134_12 : decode (mB 134) 12 = .ok (.ireturn, 1) ∧ mR 134 = (some .int) := by decide +kernel
theorem k134_13 : decode (mB 134) 13 = .ok (.iload_n 1, 1) := by decide +kernel
theorem k134_14 : decode (mB 134) 14 = .ok (.iconst 0, 1) := by decide +kernel
theorem k134_15 : decode (mB 134) 15 = .ok (.bipush 60, 2) := by decide +kernel
theorem k134_17 : decode (mB 134) 17 = .ok (.invokestatic 78, 3) ∧ tM (mO 134) 78 = none ∧ tS (mO 134) 78 = some 143 := by decide +kernel
theorem k134_20 : decode (mB 134) 20 = .ok (.ifCond .eq 23, 3) := by decide +kernel
theorem k134_23 : decode (mB 134) 23 = .ok (.iload_n 2, 1) := by decide +kernel
theorem k134_24 : decode (mB 134) 24 = .ok (.iconst 1, 1) := by decide +kernel
theorem k134_25 : decode (mB 134) 25 = .ok (.ldc_w 270, 3) ∧ tK (mO 134) 270 = some (999999) := by decide +kernel
theorem k134_28 : decode (mB 134) 28 = .ok (.invokestatic 78, 3) ∧ tM (mO 134) 78 = none ∧ tS (mO 134) 78 = some 143 := by decide +kernel
theorem k134_31 : decode (mB 134) 31 = .ok (.ifCond .eq 12, 3) := by decide +kernel
theorem k134_34 : decode (mB 134) 34 = .ok (.iload_n 3, 1) := by decide +kernel
theorem k134_35 : decode (mB 134) 35 = .ok (.iconst 0, 1) := by decide +kernel
theorem k134_36 : decode (mB 134) 36 = .ok (.iconst 1, 1) := by decide +kernel
theorem k134_37 : decode (mB 134) 37 = .ok (.invokestatic 78, 3) ∧ tM (mO 134) 78 = none ∧ tS (mO 134) 78 = some 143 := by decide +kernel
theorem k134_40 : decode (mB 134) 40 = .ok (.ifCond .ne 6, 3) := by decide +kernel
theorem k134_43 : decode (mB 134) 43 = .ok (.ldc 82, 2) ∧ tK (mO 134) 82 = some (-1000001) := by decide +kernel
theorem k134_45 : decode (mB 134) 45 = .ok (.ireturn, 1) ∧ mR 134 = (some .int) := by decide +kernel
theorem k134_46 : decode (mB 134) 46 = .ok (.aload_n 0, 1) := by decide +kernel
theorem k134_47 : decode (mB 134) 47 = .ok (.getfield 70, 3) ∧ tF (mO 134) 70 = some (10, 7, 1, 1) := by decide +kernel
theorem k134_50 : decode (mB 134) 50 = .ok (.iload_n 1, 1) := by decide +kernel
theorem k134_51 : decode (mB 134) 51 = .ok (.iload_n 2, 1) := by decide +kernel
theorem k134_52 : decode (mB 134) 52 = .ok (.iload_n 3, 1) := by decide +kernel
theorem k134_53 : decode (mB 134) 53 = .ok (.invokevirtual 271, 3) ∧ tVn (mO 134) 271 = some 3 ∧ tV (mO 134) 271 3 = some 40 := by decide +kernel
theorem k134_56 : decode (mB 134) 56 = .ok (.ireturn, 1) ∧ mR 134 = (some .int) := by decide +kernel
-- 135: ChairPast.image:(I)I, locals 2
theorem l135 : mL 135 = 2 := by decide +kernel
theorem k135_0 : decode (mB 135) 0 = .ok (.iload_n 1, 1) := by decide +kernel
theorem k135_1 : decode (mB 135) 1 = .ok (.iconst 0, 1) := by decide +kernel
theorem k135_2 : decode (mB 135) 2 = .ok (.iconst 1, 1) := by decide +kernel
theorem k135_3 : decode (mB 135) 3 = .ok (.invokestatic 78, 3) ∧ tM (mO 135) 78 = none ∧ tS (mO 135) 78 = some 143 := by decide +kernel
theorem k135_6 : decode (mB 135) 6 = .ok (.ifCond .ne 6, 3) := by decide +kernel
theorem k135_9 : decode (mB 135) 9 = .ok (.ldc 82, 2) ∧ tK (mO 135) 82 = some (-1000001) := by decide +kernel
theorem k135_11 : decode (mB 135) 11 = .ok (.ireturn, 1) ∧ mR 135 = (some .int) := by decide +kernel
theorem k135_12 : decode (mB 135) 12 = .ok (.aload_n 0, 1) := by decide +kernel
theorem k135_13 : decode (mB 135) 13 = .ok (.getfield 54, 3) ∧ tF (mO 135) 54 = some (10, 5, 1, 1) := by decide +kernel
theorem k135_16 : decode (mB 135) 16 = .ok (.invokevirtual 221, 3) ∧ tVn (mO 135) 221 = some 0 ∧ tV (mO 135) 221 8 = some 83 := by decide +kernel
theorem k135_19 : decode (mB 135) 19 = .ok (.ifCond .ne 6, 3) := by decide +kernel
theorem k135_22 : decode (mB 135) 22 = .ok (.ldc 164, 2) ∧ tK (mO 135) 164 = some (-1000002) := by decide +kernel
theorem k135_24 : decode (mB 135) 24 = .ok (.ireturn, 1) ∧ mR 135 = (some .int) := by decide +kernel
theorem k135_25 : decode (mB 135) 25 = .ok (.aload_n 0, 1) := by decide +kernel
theorem k135_26 : decode (mB 135) 26 = .ok (.getfield 54, 3) ∧ tF (mO 135) 54 = some (10, 5, 1, 1) := by decide +kernel
theorem k135_29 : decode (mB 135) 29 = .ok (.aload_n 0, 1) := by decide +kernel
theorem k135_30 : decode (mB 135) 30 = .ok (.getfield 26, 3) ∧ tF (mO 135) 26 = some (10, 3, 1, 1) := by decide +kernel
theorem k135_33 : decode (mB 135) 33 = .ok (.iload_n 1, 1) := by decide +kernel
theorem k135_34 : decode (mB 135) 34 = .ok (.aaload, 1) := by decide +kernel
theorem k135_35 : decode (mB 135) 35 = .ok (.invokevirtual 274, 3) ∧ tVn (mO 135) 274 = some 1 ∧ tV (mO 135) 274 8 = some 101 := by decide +kernel
theorem k135_38 : decode (mB 135) 38 = .ok (.iconst 1, 1) := by decide +kernel
theorem k135_39 : decode (mB 135) 39 = .ok (.ireturn, 1) ∧ mR 135 = (some .int) := by decide +kernel
-- 136: ChairPast.restore:(I)I, locals 2
theorem l136 : mL 136 = 2 := by decide +kernel
theorem k136_0 : decode (mB 136) 0 = .ok (.iload_n 1, 1) := by decide +kernel
theorem k136_1 : decode (mB 136) 1 = .ok (.iconst 0, 1) := by decide +kernel
theorem k136_2 : decode (mB 136) 2 = .ok (.iconst 1, 1) := by decide +kernel
theorem k136_3 : decode (mB 136) 3 = .ok (.invokestatic 78, 3) ∧ tM (mO 136) 78 = none ∧ tS (mO 136) 78 = some 143 := by decide +kernel
theorem k136_6 : decode (mB 136) 6 = .ok (.ifCond .ne 6, 3) := by decide +kernel
theorem k136_9 : decode (mB 136) 9 = .ok (.ldc 82, 2) ∧ tK (mO 136) 82 = some (-1000001) := by decide +kernel
theorem k136_11 : decode (mB 136) 11 = .ok (.ireturn, 1) ∧ mR 136 = (some .int) := by decide +kernel
theorem k136_12 : decode (mB 136) 12 = .ok (.aload_n 0, 1) := by decide +kernel
theorem k136_13 : decode (mB 136) 13 = .ok (.getfield 26, 3) ∧ tF (mO 136) 26 = some (10, 3, 1, 1) := by decide +kernel
theorem k136_16 : decode (mB 136) 16 = .ok (.iload_n 1, 1) := by decide +kernel
theorem k136_17 : decode (mB 136) 17 = .ok (.aaload, 1) := by decide +kernel
theorem k136_18 : decode (mB 136) 18 = .ok (.getfield 99, 3) ∧ tF (mO 136) 99 = some (4, 1, 0, 0) := by decide +kernel
theorem k136_21 : decode (mB 136) 21 = .ok (.ifCond .ne 6, 3) := by decide +kernel
theorem k136_24 : decode (mB 136) 24 = .ok (.ldc 164, 2) ∧ tK (mO 136) 164 = some (-1000002) := by decide +kernel
theorem k136_26 : decode (mB 136) 26 = .ok (.ireturn, 1) ∧ mR 136 = (some .int) := by decide +kernel
theorem k136_27 : decode (mB 136) 27 = .ok (.aload_n 0, 1) := by decide +kernel
theorem k136_28 : decode (mB 136) 28 = .ok (.getfield 54, 3) ∧ tF (mO 136) 54 = some (10, 5, 1, 1) := by decide +kernel
theorem k136_31 : decode (mB 136) 31 = .ok (.aload_n 0, 1) := by decide +kernel
theorem k136_32 : decode (mB 136) 32 = .ok (.getfield 26, 3) ∧ tF (mO 136) 26 = some (10, 3, 1, 1) := by decide +kernel
theorem k136_35 : decode (mB 136) 35 = .ok (.iload_n 1, 1) := by decide +kernel
theorem k136_36 : decode (mB 136) 36 = .ok (.aaload, 1) := by decide +kernel
theorem k136_37 : decode (mB 136) 37 = .ok (.invokevirtual 142, 3) ∧ tVn (mO 136) 142 = some 1 ∧ tV (mO 136) 142 8 = some 102 := by decide +kernel
theorem k136_40 : decode (mB 136) 40 = .ok (.aload_n 0, 1) := by decide +kernel
theorem k136_41 : decode (mB 136) 41 = .ok (.invokevirtual 146, 3) ∧ tVn (mO 136) 146 = some 0 ∧ tV (mO 136) 146 10 = some 152 := by decide +kernel
theorem k136_44 : decode (mB 136) 44 = .ok (.iconst 1, 1) := by decide +kernel
theorem k136_45 : decode (mB 136) 45 = .ok (.ireturn, 1) ∧ mR 136 = (some .int) := by decide +kernel
-- 137: ChairPast.kind:(I)I, locals 2
theorem l137 : mL 137 = 2 := by decide +kernel
theorem k137_0 : decode (mB 137) 0 = .ok (.aload_n 0, 1) := by decide +kernel
theorem k137_1 : decode (mB 137) 1 = .ok (.getfield 54, 3) ∧ tF (mO 137) 54 = some (10, 5, 1, 1) := by decide +kernel
theorem k137_4 : decode (mB 137) 4 = .ok (.iload_n 1, 1) := by decide +kernel
theorem k137_5 : decode (mB 137) 5 = .ok (.invokevirtual 155, 3) ∧ tVn (mO 137) 155 = some 1 ∧ tV (mO 137) 155 8 = some 84 := by decide +kernel
theorem k137_8 : decode (mB 137) 8 = .ok (.ifCond .eq 21, 3) := by decide +kernel
theorem k137_11 : decode (mB 137) 11 = .ok (.aload_n 0, 1) := by decide +kernel
theorem k137_12 : decode (mB 137) 12 = .ok (.getfield 54, 3) ∧ tF (mO 137) 54 = some (10, 5, 1, 1) := by decide +kernel
theorem k137_15 : decode (mB 137) 15 = .ok (.getfield 181, 3) ∧ tF (mO 137) 181 = some (8, 1, 1, 1) := by decide +kernel
theorem k137_18 : decode (mB 137) 18 = .ok (.iload_n 1, 1) := by decide +kernel
theorem k137_19 : decode (mB 137) 19 = .ok (.aaload, 1) := by decide +kernel
theorem k137_20 : decode (mB 137) 20 = .ok (.getfield 277, 3) ∧ tF (mO 137) 277 = some (1, 0, 1, 0) := by decide +kernel
theorem k137_23_5 : decode (mB 137) 23 = .ok (.invokevirtual 281, 3) ∧ tVn (mO 137) 281 = some 0 ∧ tV (mO 137) 281 5 = some 53 := by decide +kernel
theorem k137_23_7 : decode (mB 137) 23 = .ok (.invokevirtual 281, 3) ∧ tVn (mO 137) 281 = some 0 ∧ tV (mO 137) 281 7 = some 75 := by decide +kernel
theorem k137_23_0 : decode (mB 137) 23 = .ok (.invokevirtual 281, 3) ∧ tVn (mO 137) 281 = some 0 ∧ tV (mO 137) 281 0 = some 1 := by decide +kernel
theorem k137_23_9 : decode (mB 137) 23 = .ok (.invokevirtual 281, 3) ∧ tVn (mO 137) 281 = some 0 ∧ tV (mO 137) 281 9 = some 104 := by decide +kernel
theorem k137_23_2 : decode (mB 137) 23 = .ok (.invokevirtual 281, 3) ∧ tVn (mO 137) 281 = some 0 ∧ tV (mO 137) 281 2 = some 14 := by decide +kernel
theorem k137_26 : decode (mB 137) 26 = .ok (.goto 5, 3) := by decide +kernel
theorem k137_29 : decode (mB 137) 29 = .ok (.ldc 82, 2) ∧ tK (mO 137) 82 = some (-1000001) := by decide +kernel
theorem k137_31 : decode (mB 137) 31 = .ok (.ireturn, 1) ∧ mR 137 = (some .int) := by decide +kernel
-- 138: ChairPast.as:(II)I, locals 3
theorem l138 : mL 138 = 3 := by decide +kernel
theorem k138_0 : decode (mB 138) 0 = .ok (.aload_n 0, 1) := by decide +kernel
theorem k138_1 : decode (mB 138) 1 = .ok (.getfield 54, 3) ∧ tF (mO 138) 54 = some (10, 5, 1, 1) := by decide +kernel
theorem k138_4 : decode (mB 138) 4 = .ok (.iload_n 1, 1) := by decide +kernel
theorem k138_5 : decode (mB 138) 5 = .ok (.invokevirtual 155, 3) ∧ tVn (mO 138) 155 = some 1 ∧ tV (mO 138) 155 8 = some 84 := by decide +kernel
theorem k138_8 : decode (mB 138) 8 = .ok (.ifCond .eq 12, 3) := by decide +kernel
theorem k138_11 : decode (mB 138) 11 = .ok (.iload_n 2, 1) := by decide +kernel
theorem k138_12 : decode (mB 138) 12 = .ok (.iconst 0, 1) := by decide +kernel
theorem k138_13 : decode (mB 138) 13 = .ok (.iconst 5, 1) := by decide +kernel
theorem k138_14 : decode (mB 138) 14 = .ok (.invokestatic 78, 3) ∧ tM (mO 138) 78 = none ∧ tS (mO 138) 78 = some 143 := by decide +kernel
theorem k138_17 : decode (mB 138) 17 = .ok (.ifCond .ne 6, 3) := by decide +kernel
theorem k138_20 : decode (mB 138) 20 = .ok (.ldc 82, 2) ∧ tK (mO 138) 82 = some (-1000001) := by decide +kernel
theorem k138_22 : decode (mB 138) 22 = .ok (.ireturn, 1) ∧ mR 138 = (some .int) := by decide +kernel
theorem k138_23 : decode (mB 138) 23 = .ok (.aload_n 0, 1) := by decide +kernel
theorem k138_24 : decode (mB 138) 24 = .ok (.getfield 54, 3) ∧ tF (mO 138) 54 = some (10, 5, 1, 1) := by decide +kernel
theorem k138_27 : decode (mB 138) 27 = .ok (.getfield 181, 3) ∧ tF (mO 138) 181 = some (8, 1, 1, 1) := by decide +kernel
theorem k138_30 : decode (mB 138) 30 = .ok (.iload_n 1, 1) := by decide +kernel
theorem k138_31 : decode (mB 138) 31 = .ok (.aaload, 1) := by decide +kernel
theorem k138_32 : decode (mB 138) 32 = .ok (.getfield 277, 3) ∧ tF (mO 138) 277 = some (1, 0, 1, 0) := by decide +kernel
theorem k138_35 : decode (mB 138) 35 = .ok (.iload_n 2, 1) := by decide +kernel
theorem k138_36 : decode (mB 138) 36 = .ok (.invokestatic 284, 3) ∧ tM (mO 138) 284 = none ∧ tS (mO 138) 284 = some 153 := by decide +kernel
theorem k138_39 : decode (mB 138) 39 = .ok (.ifCond .eq 11, 3) := by decide +kernel
theorem k138_42 : decode (mB 138) 42 = .ok (.aload_n 0, 1) := by decide +kernel
theorem k138_43 : decode (mB 138) 43 = .ok (.iload_n 1, 1) := by decide +kernel
theorem k138_44 : decode (mB 138) 44 = .ok (.invokevirtual 93, 3) ∧ tVn (mO 138) 93 = some 1 ∧ tV (mO 138) 93 10 = some 150 := by decide +kernel
theorem k138_47 : decode (mB 138) 47 = .ok (.goto 8, 3) := by decide +kernel
theorem k138_50 : decode (mB 138) 50 = .ok (.aload_n 0, 1) := by decide +kernel
theorem k138_51 : decode (mB 138) 51 = .ok (.iconst 3, 1) := by decide +kernel
theorem k138_52 : decode (mB 138) 52 = .ok (.invokevirtual 83, 3) ∧ tVn (mO 138) 83 = some 1 ∧ tV (mO 138) 83 10 = some 149 := by decide +kernel
theorem k138_55 : decode (mB 138) 55 = .ok (.ireturn, 1) ∧ mR 138 = (some .int) := by decide +kernel
-- 139: ChairPast.ask:(II)I, locals 4
theorem l139 : mL 139 = 4 := by decide +kernel
theorem k139_0 : decode (mB 139) 0 = .ok (.aload_n 0, 1) := by decide +kernel
theorem k139_1 : decode (mB 139) 1 = .ok (.getfield 54, 3) ∧ tF (mO 139) 54 = some (10, 5, 1, 1) := by decide +kernel
theorem k139_4 : decode (mB 139) 4 = .ok (.iload_n 1, 1) := by decide +kernel
theorem k139_5 : decode (mB 139) 5 = .ok (.invokevirtual 155, 3) ∧ tVn (mO 139) 155 = some 1 ∧ tV (mO 139) 155 8 = some 84 := by decide +kernel
theorem k139_8 : decode (mB 139) 8 = .ok (.ifCond .eq 12, 3) := by decide +kernel
theorem k139_11 : decode (mB 139) 11 = .ok (.iload_n 2, 1) := by decide +kernel
theorem k139_12 : decode (mB 139) 12 = .ok (.iconst 0, 1) := by decide +kernel
theorem k139_13 : decode (mB 139) 13 = .ok (.iconst 1, 1) := by decide +kernel
theorem k139_14 : decode (mB 139) 14 = .ok (.invokestatic 78, 3) ∧ tM (mO 139) 78 = none ∧ tS (mO 139) 78 = some 143 := by decide +kernel
theorem k139_17 : decode (mB 139) 17 = .ok (.ifCond .ne 6, 3) := by decide +kernel
theorem k139_20 : decode (mB 139) 20 = .ok (.ldc 82, 2) ∧ tK (mO 139) 82 = some (-1000001) := by decide +kernel
theorem k139_22 : decode (mB 139) 22 = .ok (.ireturn, 1) ∧ mR 139 = (some .int) := by decide +kernel
theorem k139_23 : decode (mB 139) 23 = .ok (.aload_n 0, 1) := by decide +kernel
theorem k139_24 : decode (mB 139) 24 = .ok (.getfield 22, 3) ∧ tF (mO 139) 22 = some (10, 2, 1, 1) := by decide +kernel
theorem k139_27 : decode (mB 139) 27 = .ok (.invokevirtual 87, 3) ∧ tVn (mO 139) 87 = some 0 ∧ tV (mO 139) 87 4 = some 46 := by decide +kernel
theorem k139_30 : decode (mB 139) 30 = .ok (.aload_n 0, 1) := by decide +kernel
theorem k139_31 : decode (mB 139) 31 = .ok (.getfield 54, 3) ∧ tF (mO 139) 54 = some (10, 5, 1, 1) := by decide +kernel
theorem k139_34 : decode (mB 139) 34 = .ok (.getfield 181, 3) ∧ tF (mO 139) 181 = some (8, 1, 1, 1) := by decide +kernel
theorem k139_37 : decode (mB 139) 37 = .ok (.iload_n 1, 1) := by decide +kernel
theorem k139_38 : decode (mB 139) 38 = .ok (.aaload, 1) := by decide +kernel
theorem k139_39 : decode (mB 139) 39 = .ok (.astore_n 3, 1) := by decide +kernel
theorem k139_40 : decode (mB 139) 40 = .ok (.iload_n 2, 1) := by decide +kernel
theorem k139_41 : decode (mB 139) 41 = .ok (.ifCond .ne 18, 3) := by decide +kernel
theorem k139_44 : decode (mB 139) 44 = .ok (.aload_n 3, 1) := by decide +kernel
theorem k139_45 : decode (mB 139) 45 = .ok (.getfield 277, 3) ∧ tF (mO 139) 277 = some (1, 0, 1, 0) := by decide +kernel
theorem k139_48 : decode (mB 139) 48 = .ok (.aload_n 3, 1) := by decide +kernel
theorem k139_49 : decode (mB 139) 49 = .ok (.aload_n 0, 1) := by decide +kernel
theorem k139_50 : decode (mB 139) 50 = .ok (.getfield 22, 3) ∧ tF (mO 139) 22 = some (10, 2, 1, 1) := by decide +kernel
theorem k139_53_5 : decode (mB 139) 53 = .ok (.invokevirtual 288, 3) ∧ tVn (mO 139) 288 = some 2 ∧ tV (mO 139) 288 5 = some 56 := by decide +kernel
theorem k139_53_7 : decode (mB 139) 53 = .ok (.invokevirtual 288, 3) ∧ tVn (mO 139) 288 = some 2 ∧ tV (mO 139) 288 7 = some 77 := by decide +kernel
theorem k139_53_0 : decode (mB 139) 53 = .ok (.invokevirtual 288, 3) ∧ tVn (mO 139) 288 = some 2 ∧ tV (mO 139) 288 0 = some 56 := by decide +kernel
theorem k139_53_9 : decode (mB 139) 53 = .ok (.invokevirtual 288, 3) ∧ tVn (mO 139) 288 = some 2 ∧ tV (mO 139) 288 9 = some 107 := by decide +kernel
theorem k139_53_2 : decode (mB 139) 53 = .ok (.invokevirtual 288, 3) ∧ tVn (mO 139) 288 = some 2 ∧ tV (mO 139) 288 2 = some 16 := by decide +kernel
theorem k139_56 : decode (mB 139) 56 = .ok (.goto 15, 3) := by decide +kernel
theorem k139_59 : decode (mB 139) 59 = .ok (.aload_n 3, 1) := by decide +kernel
theorem k139_60 : decode (mB 139) 60 = .ok (.getfield 277, 3) ∧ tF (mO 139) 277 = some (1, 0, 1, 0) := by decide +kernel
theorem k139_63 : decode (mB 139) 63 = .ok (.aload_n 3, 1) := by decide +kernel
theorem k139_64 : decode (mB 139) 64 = .ok (.aload_n 0, 1) := by decide +kernel
theorem k139_65 : decode (mB 139) 65 = .ok (.getfield 22, 3) ∧ tF (mO 139) 22 = some (10, 2, 1, 1) := by decide +kernel
theorem k139_68_5 : decode (mB 139) 68 = .ok (.invokevirtual 292, 3) ∧ tVn (mO 139) 292 = some 2 ∧ tV (mO 139) 292 5 = some 57 := by decide +kernel
theorem k139_68_7 : decode (mB 139) 68 = .ok (.invokevirtual 292, 3) ∧ tVn (mO 139) 292 = some 2 ∧ tV (mO 139) 292 7 = some 78 := by decide +kernel
theorem k139_68_0 : decode (mB 139) 68 = .ok (.invokevirtual 292, 3) ∧ tVn (mO 139) 292 = some 2 ∧ tV (mO 139) 292 0 = some 4 := by decide +kernel
theorem k139_68_9 : decode (mB 139) 68 = .ok (.invokevirtual 292, 3) ∧ tVn (mO 139) 292 = some 2 ∧ tV (mO 139) 292 9 = some 108 := by decide +kernel
theorem k139_68_2 : decode (mB 139) 68 = .ok (.invokevirtual 292, 3) ∧ tVn (mO 139) 292 = some 2 ∧ tV (mO 139) 292 2 = some 108 := by decide +kernel
theorem k139_71 : decode (mB 139) 71 = .ok (.ireturn, 1) ∧ mR 139 = (some .int) := by decide +kernel
-- 140: ChairPast.trace:(I)I, locals 2
theorem l140 : mL 140 = 2 := by decide +kernel
theorem k140_0 : decode (mB 140) 0 = .ok (.aload_n 0, 1) := by decide +kernel
theorem k140_1 : decode (mB 140) 1 = .ok (.getfield 22, 3) ∧ tF (mO 140) 22 = some (10, 2, 1, 1) := by decide +kernel
theorem k140_4 : decode (mB 140) 4 = .ok (.iload_n 1, 1) := by decide +kernel
theorem k140_5 : decode (mB 140) 5 = .ok (.invokevirtual 295, 3) ∧ tVn (mO 140) 295 = some 1 ∧ tV (mO 140) 295 4 = some 48 := by decide +kernel
theorem k140_8 : decode (mB 140) 8 = .ok (.ireturn, 1) ∧ mR 140 = (some .int) := by decide +kernel
-- 141: ChairPast.count:(I)I, locals 2
theorem l141 : mL 141 = 2 := by decide +kernel
theorem k141_0 : decode (mB 141) 0 = .ok (.iload_n 1, 1) := by decide +kernel
theorem k141_1 : decode (mB 141) 1 = .ok (.tableswitch 108 0 7 #[47, 52, 60, 68, 76, 84, 92, 97], 47) := by decide +kernel
theorem k141_48 : decode (mB 141) 48 = .ok (.aload_n 0, 1) := by decide +kernel
theorem k141_49 : decode (mB 141) 49 = .ok (.invokevirtual 298, 3) ∧ tVn (mO 141) 298 = some 0 ∧ tV (mO 141) 298 10 = some 146 := by decide +kernel
theorem k141_52 : decode (mB 141) 52 = .ok (.ireturn, 1) ∧ mR 141 = (some .int) := by decide +kernel
theorem k141_53 : decode (mB 141) 53 = .ok (.aload_n 0, 1) := by decide +kernel
theorem k141_54 : decode (mB 141) 54 = .ok (.getfield 54, 3) ∧ tF (mO 141) 54 = some (10, 5, 1, 1) := by decide +kernel
theorem k141_57 : decode (mB 141) 57 = .ok (.getfield 149, 3) ∧ tF (mO 141) 149 = some (8, 6, 0, 0) := by decide +kernel
theorem k141_60 : decode (mB 141) 60 = .ok (.ireturn, 1) ∧ mR 141 = (some .int) := by decide +kernel
theorem k141_61 : decode (mB 141) 61 = .ok (.aload_n 0, 1) := by decide +kernel
theorem k141_62 : decode (mB 141) 62 = .ok (.getfield 54, 3) ∧ tF (mO 141) 54 = some (10, 5, 1, 1) := by decide +kernel
theorem k141_65 : decode (mB 141) 65 = .ok (.getfield 260, 3) ∧ tF (mO 141) 260 = some (8, 7, 0, 0) := by decide +kernel
theorem k141_68 : decode (mB 141) 68 = .ok (.ireturn, 1) ∧ mR 141 = (some .int) := by decide +kernel
theorem k141_69 : decode (mB 141) 69 = .ok (.aload_n 0, 1) := by decide +kernel
theorem k141_70 : decode (mB 141) 70 = .ok (.getfield 54, 3) ∧ tF (mO 141) 54 = some (10, 5, 1, 1) := by decide +kernel
theorem k141_73 : decode (mB 141) 73 = .ok (.invokevirtual 301, 3) ∧ tVn (mO 141) 301 = some 0 ∧ tV (mO 141) 301 8 = some 98 := by decide +kernel
theorem k141_76 : decode (mB 141) 76 = .ok (.ireturn, 1) ∧ mR 141 = (some .int) := by decide +kernel
theorem k141_77 : decode (mB 141) 77 = .ok (.aload_n 0, 1) := by decide +kernel
theorem k141_78 : decode (mB 141) 78 = .ok (.getfield 54, 3) ∧ tF (mO 141) 54 = some (10, 5, 1, 1) := by decide +kernel
theorem k141_81 : decode (mB 141) 81 = .ok (.invokevirtual 304, 3) ∧ tVn (mO 141) 304 = some 0 ∧ tV (mO 141) 304 8 = some 99 := by decide +kernel
theorem k141_84 : decode (mB 141) 84 = .ok (.ireturn, 1) ∧ mR 141 = (some .int) := by decide +kernel
theorem k141_85 : decode (mB 141) 85 = .ok (.aload_n 0, 1) := by decide +kernel
theorem k141_86 : decode (mB 141) 86 = .ok (.getfield 54, 3) ∧ tF (mO 141) 54 = some (10, 5, 1, 1) := by decide +kernel
theorem k141_89 : decode (mB 141) 89 = .ok (.getfield 307, 3) ∧ tF (mO 141) 307 = some (8, 8, 0, 0) := by decide +kernel
theorem k141_92 : decode (mB 141) 92 = .ok (.ireturn, 1) ∧ mR 141 = (some .int) := by decide +kernel
theorem k141_93 : decode (mB 141) 93 = .ok (.aload_n 0, 1) := by decide +kernel
theorem k141_94 : decode (mB 141) 94 = .ok (.getfield 197, 3) ∧ tF (mO 141) 197 = some (10, 9, 0, 0) := by decide +kernel
theorem k141_97 : decode (mB 141) 97 = .ok (.ireturn, 1) ∧ mR 141 = (some .int) := by decide +kernel
theorem k141_98 : decode (mB 141) 98 = .ok (.aload_n 0, 1) := by decide +kernel
theorem k141_99 : decode (mB 141) 99 = .ok (.getfield 61, 3) ∧ tF (mO 141) 61 = some (10, 6, 1, 1) := by decide +kernel
theorem k141_102 : decode (mB 141) 102 = .ok (.getfield 120, 3) ∧ tF (mO 141) 120 = some (6, 0, 1, 1) := by decide +kernel
theorem k141_105 : decode (mB 141) 105 = .ok (.getfield 99, 3) ∧ tF (mO 141) 99 = some (4, 1, 0, 0) := by decide +kernel
theorem k141_108 : decode (mB 141) 108 = .ok (.ireturn, 1) ∧ mR 141 = (some .int) := by decide +kernel
theorem k141_109 : decode (mB 141) 109 = .ok (.ldc 82, 2) ∧ tK (mO 141) 82 = some (-1000001) := by decide +kernel
theorem k141_111 : decode (mB 141) 111 = .ok (.ireturn, 1) ∧ mR 141 = (some .int) := by decide +kernel
-- 142: ChairPast.status:()I, locals 1
theorem l142 : mL 142 = 1 := by decide +kernel
theorem k142_0 : decode (mB 142) 0 = .ok (.aload_n 0, 1) := by decide +kernel
theorem k142_1 : decode (mB 142) 1 = .ok (.getfield 310, 3) ∧ tF (mO 142) 310 = some (10, 11, 0, 0) := by decide +kernel
theorem k142_4 : decode (mB 142) 4 = .ok (.ireturn, 1) ∧ mR 142 = (some .int) := by decide +kernel
-- 143: ChairPast.within:(III)Z, locals 3
theorem l143 : mL 143 = 3 := by decide +kernel
theorem k143_0 : decode (mB 143) 0 = .ok (.iload_n 0, 1) := by decide +kernel
theorem k143_1 : decode (mB 143) 1 = .ok (.iload_n 1, 1) := by decide +kernel
theorem k143_2 : decode (mB 143) 2 = .ok (.if_icmp .lt 12, 3) := by decide +kernel
theorem k143_5 : decode (mB 143) 5 = .ok (.iload_n 0, 1) := by decide +kernel
theorem k143_6 : decode (mB 143) 6 = .ok (.iload_n 2, 1) := by decide +kernel
theorem k143_7 : decode (mB 143) 7 = .ok (.if_icmp .gt 7, 3) := by decide +kernel
theorem k143_10 : decode (mB 143) 10 = .ok (.iconst 1, 1) := by decide +kernel
theorem k143_11 : decode (mB 143) 11 = .ok (.goto 4, 3) := by decide +kernel
theorem k143_14 : decode (mB 143) 14 = .ok (.iconst 0, 1) := by decide +kernel
theorem k143_15 : decode (mB 143) 15 = .ok (.ireturn, 1) ∧ mR 143 = (some .boolean) := by decide +kernel
-- 144: ChairPast.isRow:(I)Z, locals 1
theorem l144 : mL 144 = 1 := by decide +kernel
theorem k144_0 : decode (mB 144) 0 = .ok (.iload_n 0, 1) := by decide +kernel
theorem k144_1 : decode (mB 144) 1 = .ok (.iconst 0, 1) := by decide +kernel
theorem k144_2 : decode (mB 144) 2 = .ok (.bipush 7, 2) := by decide +kernel
theorem k144_4 : decode (mB 144) 4 = .ok (.invokestatic 78, 3) ∧ tM (mO 144) 78 = none ∧ tS (mO 144) 78 = some 143 := by decide +kernel
theorem k144_7 : decode (mB 144) 7 = .ok (.ireturn, 1) ∧ mR 144 = (some .boolean) := by decide +kernel
-- 145: ChairPast.isMissing:(I)Z, locals 2
theorem l145 : mL 145 = 2 := by decide +kernel
theorem k145_0 : decode (mB 145) 0 = .ok (.aload_n 0, 1) := by decide +kernel
theorem k145_1 : decode (mB 145) 1 = .ok (.getfield 15, 3) ∧ tF (mO 145) 15 = some (10, 1, 1, 1) := by decide +kernel
theorem k145_4 : decode (mB 145) 4 = .ok (.iload_n 1, 1) := by decide +kernel
theorem k145_5 : decode (mB 145) 5 = .ok (.iaload, 1) := by decide +kernel
theorem k145_6 : decode (mB 145) 6 = .ok (.iconst (-1), 1) := by decide +kernel
theorem k145_7 : decode (mB 145) 7 = .ok (.if_icmp .ne 7, 3) := by decide +kernel
theorem k145_10 : decode (mB 145) 10 = .ok (.iconst 1, 1) := by decide +kernel
theorem k145_11 : decode (mB 145) 11 = .ok (.goto 4, 3) := by decide +kernel
theorem k145_14 : decode (mB 145) 14 = .ok (.iconst 0, 1) := by decide +kernel
theorem k145_15 : decode (mB 145) 15 = .ok (.ireturn, 1) ∧ mR 145 = (some .boolean) := by decide +kernel
-- 146: ChairPast.rowsThere:()I, locals 3
theorem l146 : mL 146 = 3 := by decide +kernel
theorem k146_0 : decode (mB 146) 0 = .ok (.iconst 0, 1) := by decide +kernel
theorem k146_1 : decode (mB 146) 1 = .ok (.istore_n 1, 1) := by decide +kernel
theorem k146_2 : decode (mB 146) 2 = .ok (.iconst 0, 1) := by decide +kernel
theorem k146_3 : decode (mB 146) 3 = .ok (.istore_n 2, 1) := by decide +kernel
theorem k146_4 : decode (mB 146) 4 = .ok (.iload_n 2, 1) := by decide +kernel
theorem k146_5 : decode (mB 146) 5 = .ok (.bipush 8, 2) := by decide +kernel
theorem k146_7 : decode (mB 146) 7 = .ok (.if_icmp .ge 20, 3) := by decide +kernel
theorem k146_10 : decode (mB 146) 10 = .ok (.aload_n 0, 1) := by decide +kernel
theorem k146_11 : decode (mB 146) 11 = .ok (.iload_n 2, 1) := by decide +kernel
theorem k146_12 : decode (mB 146) 12 = .ok (.invokevirtual 96, 3) ∧ tVn (mO 146) 96 = some 1 ∧ tV (mO 146) 96 10 = some 145 := by decide +kernel
theorem k146_15 : decode (mB 146) 15 = .ok (.ifCond .ne 6, 3) := by decide +kernel
theorem k146_18 : decode (mB 146) 18 = .ok (.iinc 1 1, 3) := by decide +kernel
theorem k146_21 : decode (mB 146) 21 = .ok (.iinc 2 1, 3) := by decide +kernel
theorem k146_24 : decode (mB 146) 24 = .ok (.goto (-20), 3) := by decide +kernel
theorem k146_27 : decode (mB 146) 27 = .ok (.iload_n 1, 1) := by decide +kernel
theorem k146_28 : decode (mB 146) 28 = .ok (.ireturn, 1) ∧ mR 146 = (some .int) := by decide +kernel
-- 147: ChairPast.narrowed:(II)I, locals 2
theorem l147 : mL 147 = 2 := by decide +kernel
theorem k147_0 : decode (mB 147) 0 = .ok (.iload_n 0, 1) := by decide +kernel
theorem k147_1 : decode (mB 147) 1 = .ok (.lookupswitch 33 #[(0, 27), (1, 30)], 27) := by decide +kernel
theorem k147_28 : decode (mB 147) 28 = .ok (.iload_n 1, 1) := by decide +kernel
theorem k147_29 : decode (mB 147) 29 = .ok (.i2b, 1) := by decide +kernel
theorem k147_30 : decode (mB 147) 30 = .ok (.ireturn, 1) ∧ mR 147 = (some .int) := by decide +kernel
theorem k147_31 : decode (mB 147) 31 = .ok (.iload_n 1, 1) := by decide +kernel
theorem k147_32 : decode (mB 147) 32 = .ok (.i2s, 1) := by decide +kernel
theorem k147_33 : decode (mB 147) 33 = .ok (.ireturn, 1) ∧ mR 147 = (some .int) := by decide +kernel
theorem k147_34 : decode (mB 147) 34 = .ok (.iload_n 1, 1) := by decide +kernel
theorem k147_35 : decode (mB 147) 35 = .ok (.ireturn, 1) ∧ mR 147 = (some .int) := by decide +kernel
-- 148: ChairPast.findingOf:(III)I, locals 4
theorem l148 : mL 148 = 4 := by decide +kernel
theorem k148_0 : decode (mB 148) 0 = .ok (.aload_n 0, 1) := by decide +kernel
theorem k148_1 : decode (mB 148) 1 = .ok (.iload_n 1, 1) := by decide +kernel
theorem k148_2 : decode (mB 148) 2 = .ok (.invokevirtual 96, 3) ∧ tVn (mO 148) 96 = some 1 ∧ tV (mO 148) 96 10 = some 145 := by decide +kernel
theorem k148_5 : decode (mB 148) 5 = .ok (.ifCond .eq 5, 3) := by decide +kernel
theorem k148_8 : decode (mB 148) 8 = .ok (.iconst 1, 1) := by decide +kernel
theorem k148_9 : decode (mB 148) 9 = .ok (.ireturn, 1) ∧ mR 148 = (some .int) := by decide +kernel
theorem k148_10 : decode (mB 148) 10 = .ok (.aload_n 0, 1) := by decide +kernel
theorem k148_11 : decode (mB 148) 11 = .ok (.getfield 11, 3) ∧ tF (mO 148) 11 = some (10, 0, 1, 1) := by decide +kernel
theorem k148_14 : decode (mB 148) 14 = .ok (.iload_n 1, 1) := by decide +kernel
theorem k148_15 : decode (mB 148) 15 = .ok (.aaload, 1) := by decide +kernel
theorem k148_16 : decode (mB 148) 16 = .ok (.iload_n 2, 1) := by decide +kernel
theorem k148_17 : decode (mB 148) 17 = .ok (.iload_n 3, 1) := by decide +kernel
theorem k148_18 : decode (mB 148) 18 = .ok (.invokevirtual 110, 3) ∧ tVn (mO 148) 110 = some 2 ∧ tV (mO 148) 110 4 = some 49 := by decide +kernel
theorem k148_21 : decode (mB 148) 21 = .ok (.ifCond .eq 7, 3) := by decide +kernel
theorem k148_24 : decode (mB 148) 24 = .ok (.iconst 0, 1) := by decide +kernel
theorem k148_25 : decode (mB 148) 25 = .ok (.goto 4, 3) := by decide +kernel
theorem k148_28 : decode (mB 148) 28 = .ok (.iconst 2, 1) := by decide +kernel
theorem k148_29 : decode (mB 148) 29 = .ok (.ireturn, 1) ∧ mR 148 = (some .int) := by decide +kernel
-- 149: ChairPast.found:(I)I, locals 2
theorem l149 : mL 149 = 2 := by decide +kernel
theorem k149_0 : decode (mB 149) 0 = .ok (.aload_n 0, 1) := by decide +kernel
theorem k149_1 : decode (mB 149) 1 = .ok (.iload_n 1, 1) := by decide +kernel
theorem k149_2 : decode (mB 149) 2 = .ok (.putfield 310, 3) ∧ tF (mO 149) 310 = some (10, 11, 0, 0) := by decide +kernel
theorem k149_5 : decode (mB 149) 5 = .ok (.ldc_w 313, 3) ∧ tK (mO 149) 313 = some (-1000010) := by decide +kernel
theorem k149_8 : decode (mB 149) 8 = .ok (.iload_n 1, 1) := by decide +kernel
theorem k149_9 : decode (mB 149) 9 = .ok (.isub, 1) := by decide +kernel
theorem k149_10 : decode (mB 149) 10 = .ok (.ireturn, 1) ∧ mR 149 = (some .int) := by decide +kernel
-- 150: ChairPast.sound:(I)I, locals 2
theorem l150 : mL 150 = 2 := by decide +kernel
theorem k150_0 : decode (mB 150) 0 = .ok (.aload_n 0, 1) := by decide +kernel
theorem k150_1 : decode (mB 150) 1 = .ok (.iconst 0, 1) := by decide +kernel
theorem k150_2 : decode (mB 150) 2 = .ok (.putfield 310, 3) ∧ tF (mO 150) 310 = some (10, 11, 0, 0) := by decide +kernel
theorem k150_5 : decode (mB 150) 5 = .ok (.iload_n 1, 1) := by decide +kernel
theorem k150_6 : decode (mB 150) 6 = .ok (.ireturn, 1) ∧ mR 150 = (some .int) := by decide +kernel
-- 151: ChairPast.keepAct:()V, locals 1
theorem l151 : mL 151 = 1 := by decide +kernel
theorem k151_0 : decode (mB 151) 0 = .ok (.aload_n 0, 1) := by decide +kernel
theorem k151_1 : decode (mB 151) 1 = .ok (.getfield 54, 3) ∧ tF (mO 151) 54 = some (10, 5, 1, 1) := by decide +kernel
theorem k151_4 : decode (mB 151) 4 = .ok (.aload_n 0, 1) := by decide +kernel
theorem k151_5 : decode (mB 151) 5 = .ok (.getfield 29, 3) ∧ tF (mO 151) 29 = some (10, 4, 1, 1) := by decide +kernel
theorem k151_8 : decode (mB 151) 8 = .ok (.aload_n 0, 1) := by decide +kernel
theorem k151_9 : decode (mB 151) 9 = .ok (.getfield 200, 3) ∧ tF (mO 151) 200 = some (10, 8, 0, 0) := by decide +kernel
theorem k151_12 : decode (mB 151) 12 = .ok (.aload_n 0, 1) := by decide +kernel
theorem k151_13 : decode (mB 151) 13 = .ok (.getfield 197, 3) ∧ tF (mO 151) 197 = some (10, 9, 0, 0) := by decide +kernel
theorem k151_16 : decode (mB 151) 16 = .ok (.iadd, 1) := by decide +kernel
theorem k151_17 : decode (mB 151) 17 = .ok (.bipush 24, 2) := by decide +kernel
theorem k151_19 : decode (mB 151) 19 = .ok (.irem, 1) := by decide +kernel
theorem k151_20 : decode (mB 151) 20 = .ok (.aaload, 1) := by decide +kernel
theorem k151_21 : decode (mB 151) 21 = .ok (.invokevirtual 274, 3) ∧ tVn (mO 151) 274 = some 1 ∧ tV (mO 151) 274 8 = some 101 := by decide +kernel
theorem k151_24 : decode (mB 151) 24 = .ok (.aload_n 0, 1) := by decide +kernel
theorem k151_25 : decode (mB 151) 25 = .ok (.getfield 197, 3) ∧ tF (mO 151) 197 = some (10, 9, 0, 0) := by decide +kernel
theorem k151_28 : decode (mB 151) 28 = .ok (.bipush 24, 2) := by decide +kernel
theorem k151_30 : decode (mB 151) 30 = .ok (.if_icmp .ge 16, 3) := by decide +kernel
theorem k151_33 : decode (mB 151) 33 = .ok (.aload_n 0, 1) := by decide +kernel
theorem k151_34 : decode (mB 151) 34 = .ok (.dup, 1) := by decide +kernel
theorem k151_35 : decode (mB 151) 35 = .ok (.getfield 197, 3) ∧ tF (mO 151) 197 = some (10, 9, 0, 0) := by decide +kernel
theorem k151_38 : decode (mB 151) 38 = .ok (.iconst 1, 1) := by decide +kernel
theorem k151_39 : decode (mB 151) 39 = .ok (.iadd, 1) := by decide +kernel
theorem k151_40 : decode (mB 151) 40 = .ok (.putfield 197, 3) ∧ tF (mO 151) 197 = some (10, 9, 0, 0) := by decide +kernel
theorem k151_43 : decode (mB 151) 43 = .ok (.goto 16, 3) := by decide +kernel
theorem k151_46 : decode (mB 151) 46 = .ok (.aload_n 0, 1) := by decide +kernel
theorem k151_47 : decode (mB 151) 47 = .ok (.aload_n 0, 1) := by decide +kernel
theorem k151_48 : decode (mB 151) 48 = .ok (.getfield 200, 3) ∧ tF (mO 151) 200 = some (10, 8, 0, 0) := by decide +kernel
theorem k151_51 : decode (mB 151) 51 = .ok (.iconst 1, 1) := by decide +kernel
theorem k151_52 : decode (mB 151) 52 = .ok (.iadd, 1) := by decide +kernel
theorem k151_53 : decode (mB 151) 53 = .ok (.bipush 24, 2) := by decide +kernel
theorem k151_55 : decode (mB 151) 55 = .ok (.irem, 1) := by decide +kernel
theorem k151_56 : decode (mB 151) 56 = .ok (.putfield 200, 3) ∧ tF (mO 151) 200 = some (10, 8, 0, 0) := by decide +kernel
theorem k151_59 : decode (mB 151) 59 = .ok (.return_, 1) ∧ mR 151 = none := by decide +kernel
-- 152: ChairPast.forgetActs:()V, locals 1
theorem l152 : mL 152 = 1 := by decide +kernel
theorem k152_0 : decode (mB 152) 0 = .ok (.aload_n 0, 1) := by decide +kernel
theorem k152_1 : decode (mB 152) 1 = .ok (.iconst 0, 1) := by decide +kernel
theorem k152_2 : decode (mB 152) 2 = .ok (.putfield 200, 3) ∧ tF (mO 152) 200 = some (10, 8, 0, 0) := by decide +kernel
theorem k152_5 : decode (mB 152) 5 = .ok (.aload_n 0, 1) := by decide +kernel
theorem k152_6 : decode (mB 152) 6 = .ok (.iconst 0, 1) := by decide +kernel
theorem k152_7 : decode (mB 152) 7 = .ok (.putfield 197, 3) ∧ tF (mO 152) 197 = some (10, 9, 0, 0) := by decide +kernel
theorem k152_10 : decode (mB 152) 10 = .ok (.return_, 1) ∧ mR 152 = none := by decide +kernel
-- 153: ChairPast.isOf:(LChairPast$Kind;I)Z, locals 2
theorem l153 : mL 153 = 2 := by decide +kernel
theorem k153_0 : decode (mB 153) 0 = .ok (.iload_n 1, 1) := by decide +kernel
theorem k153_1 : decode (mB 153) 1 = .ok (.tableswitch 66 0 5 #[39, 41, 46, 51, 56, 61], 39) := by decide +kernel
theorem k153_40 : decode (mB 153) 40 = .ok (.iconst 1, 1) := by decide +kernel
theorem k153_41 : decode (mB 153) 41 = .ok (.ireturn, 1) ∧ mR 153 = (some .boolean) := by decide +kernel
theorem k153_42 : decode (mB 153) 42 = .ok (.aload_n 0, 1) := by decide +kernel
theorem k153_43 : decode (mB 153) 43 = .ok (.instanceof 34, 3) ∧ tO (mO 153) 34 = some 6 := by decide +kernel
theorem k153_46 : decode (mB 153) 46 = .ok (.ireturn, 1) ∧ mR 153 = (some .boolean) := by decide +kernel
theorem k153_47 : decode (mB 153) 47 = .ok (.aload_n 0, 1) := by decide +kernel
theorem k153_48 : decode (mB 153) 48 = .ok (.instanceof 37, 3) ∧ tO (mO 153) 37 = some 8 := by decide +kernel
theorem k153_51 : decode (mB 153) 51 = .ok (.ireturn, 1) ∧ mR 153 = (some .boolean) := by decide +kernel
theorem k153_52 : decode (mB 153) 52 = .ok (.aload_n 0, 1) := by decide +kernel
theorem k153_53 : decode (mB 153) 53 = .ok (.instanceof 40, 3) ∧ tO (mO 153) 40 = some 0 := by decide +kernel
theorem k153_56 : decode (mB 153) 56 = .ok (.ireturn, 1) ∧ mR 153 = (some .boolean) := by decide +kernel
theorem k153_57 : decode (mB 153) 57 = .ok (.aload_n 0, 1) := by decide +kernel
theorem k153_58 : decode (mB 153) 58 = .ok (.instanceof 43, 3) ∧ tO (mO 153) 43 = some 10 := by decide +kernel
theorem k153_61 : decode (mB 153) 61 = .ok (.ireturn, 1) ∧ mR 153 = (some .boolean) := by decide +kernel
theorem k153_62 : decode (mB 153) 62 = .ok (.aload_n 0, 1) := by decide +kernel
theorem k153_63 : decode (mB 153) 63 = .ok (.instanceof 46, 3) ∧ tO (mO 153) 46 = some 2 := by decide +kernel
theorem k153_66 : decode (mB 153) 66 = .ok (.ireturn, 1) ∧ mR 153 = (some .boolean) := by decide +kernel
theorem k153_67 : decode (mB 153) 67 = .ok (.iconst 0, 1) := by decide +kernel
theorem k153_68 : decode (mB 153) 68 = .ok (.ireturn, 1) ∧ mR 153 = (some .boolean) := by decide +kernel
-- 155: ChairPastModel.in:(III)Z, locals 3
theorem l155 : mL 155 = 3 := by decide +kernel
theorem k155_0 : decode (mB 155) 0 = .ok (.iload_n 0, 1) := by decide +kernel
theorem k155_1 : decode (mB 155) 1 = .ok (.iload_n 1, 1) := by decide +kernel
theorem k155_2 : decode (mB 155) 2 = .ok (.if_icmp .lt 12, 3) := by decide +kernel
theorem k155_5 : decode (mB 155) 5 = .ok (.iload_n 0, 1) := by decide +kernel
theorem k155_6 : decode (mB 155) 6 = .ok (.iload_n 2, 1) := by decide +kernel
theorem k155_7 : decode (mB 155) 7 = .ok (.if_icmp .gt 7, 3) := by decide +kernel
theorem k155_10 : decode (mB 155) 10 = .ok (.iconst 1, 1) := by decide +kernel
theorem k155_11 : decode (mB 155) 11 = .ok (.goto 4, 3) := by decide +kernel
theorem k155_14 : decode (mB 155) 14 = .ok (.iconst 0, 1) := by decide +kernel
theorem k155_15 : decode (mB 155) 15 = .ok (.ireturn, 1) ∧ mR 155 = (some .boolean) := by decide +kernel
-- 156: ChairPastModel.has:(II)Z, locals 2
theorem l156 : mL 156 = 2 := by decide +kernel
theorem k156_0 : decode (mB 156) 0 = .ok (.iload_n 0, 1) := by decide +kernel
theorem k156_1 : decode (mB 156) 1 = .ok (.iload_n 1, 1) := by decide +kernel
theorem k156_2 : decode (mB 156) 2 = .ok (.ishr, 1) := by decide +kernel
theorem k156_3 : decode (mB 156) 3 = .ok (.iconst 1, 1) := by decide +kernel
theorem k156_4 : decode (mB 156) 4 = .ok (.iand, 1) := by decide +kernel
theorem k156_5 : decode (mB 156) 5 = .ok (.iconst 1, 1) := by decide +kernel
theorem k156_6 : decode (mB 156) 6 = .ok (.if_icmp .ne 7, 3) := by decide +kernel
theorem k156_9 : decode (mB 156) 9 = .ok (.iconst 1, 1) := by decide +kernel
theorem k156_10 : decode (mB 156) 10 = .ok (.goto 4, 3) := by decide +kernel
theorem k156_13 : decode (mB 156) 13 = .ok (.iconst 0, 1) := by decide +kernel
theorem k156_14 : decode (mB 156) 14 = .ok (.ireturn, 1) ∧ mR 156 = (some .boolean) := by decide +kernel
-- 157: ChairPastModel.found:(I)I, locals 2
theorem l157 : mL 157 = 2 := by decide +kernel
theorem k157_0 : decode (mB 157) 0 = .ok (.aload_n 0, 1) := by decide +kernel
theorem k157_1 : decode (mB 157) 1 = .ok (.iload_n 1, 1) := by decide +kernel
theorem k157_2 : decode (mB 157) 2 = .ok (.putfield 54, 3) ∧ tF (mO 157) 54 = some (11, 4, 0, 0) := by decide +kernel
theorem k157_5 : decode (mB 157) 5 = .ok (.ldc 58, 2) ∧ tK (mO 157) 58 = some (-1000010) := by decide +kernel
theorem k157_7 : decode (mB 157) 7 = .ok (.iload_n 1, 1) := by decide +kernel
theorem k157_8 : decode (mB 157) 8 = .ok (.isub, 1) := by decide +kernel
theorem k157_9 : decode (mB 157) 9 = .ok (.ireturn, 1) ∧ mR 157 = (some .int) := by decide +kernel
-- 158: ChairPastModel.well:(I)I, locals 2
theorem l158 : mL 158 = 2 := by decide +kernel
theorem k158_0 : decode (mB 158) 0 = .ok (.aload_n 0, 1) := by decide +kernel
theorem k158_1 : decode (mB 158) 1 = .ok (.iconst 0, 1) := by decide +kernel
theorem k158_2 : decode (mB 158) 2 = .ok (.putfield 54, 3) ∧ tF (mO 158) 54 = some (11, 4, 0, 0) := by decide +kernel
theorem k158_5 : decode (mB 158) 5 = .ok (.iload_n 1, 1) := by decide +kernel
theorem k158_6 : decode (mB 158) 6 = .ok (.ireturn, 1) ∧ mR 158 = (some .int) := by decide +kernel
-- 159: ChairPastModel.copies:([II[II)V, locals 5
theorem l159 : mL 159 = 5 := by decide +kernel
theorem k159_0 : decode (mB 159) 0 = .ok (.iconst 0, 1) := by decide +kernel
theorem k159_1 : decode (mB 159) 1 = .ok (.istore 4, 2) := by decide +kernel
theorem k159_3 : decode (mB 159) 3 = .ok (.iload 4, 2) := by decide +kernel
theorem k159_5 : decode (mB 159) 5 = .ok (.bipush 48, 2) := by decide +kernel
theorem k159_7 : decode (mB 159) 7 = .ok (.if_icmp .ge 21, 3) := by decide +kernel
theorem k159_10 : decode (mB 159) 10 = .ok (.aload_n 2, 1) := by decide +kernel
theorem k159_11 : decode (mB 159) 11 = .ok (.iload_n 3, 1) := by decide +kernel
theorem k159_12 : decode (mB 159) 12 = .ok (.iload 4, 2) := by decide +kernel
theorem k159_14 : decode (mB 159) 14 = .ok (.iadd, 1) := by decide +kernel
theorem k159_15 : decode (mB 159) 15 = .ok (.aload_n 0, 1) := by decide +kernel
theorem k159_16 : decode (mB 159) 16 = .ok (.iload_n 1, 1) := by decide +kernel
theorem k159_17 : decode (mB 159) 17 = .ok (.iload 4, 2) := by decide +kernel
theorem k159_19 : decode (mB 159) 19 = .ok (.iadd, 1) := by decide +kernel
theorem k159_20 : decode (mB 159) 20 = .ok (.iaload, 1) := by decide +kernel
theorem k159_21 : decode (mB 159) 21 = .ok (.iastore, 1) := by decide +kernel
theorem k159_22 : decode (mB 159) 22 = .ok (.iinc 4 1, 3) := by decide +kernel
theorem k159_25 : decode (mB 159) 25 = .ok (.goto (-22), 3) := by decide +kernel
theorem k159_28 : decode (mB 159) 28 = .ok (.return_, 1) ∧ mR 159 = none := by decide +kernel
-- 160: ChairPastModel.isRow:(I)Z, locals 1
theorem l160 : mL 160 = 1 := by decide +kernel
theorem k160_0 : decode (mB 160) 0 = .ok (.iload_n 0, 1) := by decide +kernel
theorem k160_1 : decode (mB 160) 1 = .ok (.iconst 0, 1) := by decide +kernel
theorem k160_2 : decode (mB 160) 2 = .ok (.bipush 7, 2) := by decide +kernel
theorem k160_4 : decode (mB 160) 4 = .ok (.invokestatic 59, 3) ∧ tM (mO 160) 59 = none ∧ tS (mO 160) 59 = some 155 := by decide +kernel
theorem k160_7 : decode (mB 160) 7 = .ok (.ireturn, 1) ∧ mR 160 = (some .boolean) := by decide +kernel
-- 161: ChairPastModel.isMissing:(I)Z, locals 2
theorem l161 : mL 161 = 2 := by decide +kernel
theorem k161_0 : decode (mB 161) 0 = .ok (.aload_n 0, 1) := by decide +kernel
theorem k161_1 : decode (mB 161) 1 = .ok (.getfield 7, 3) ∧ tF (mO 161) 7 = some (11, 0, 1, 1) := by decide +kernel
theorem k161_4 : decode (mB 161) 4 = .ok (.iload_n 1, 1) := by decide +kernel
theorem k161_5 : decode (mB 161) 5 = .ok (.iaload, 1) := by decide +kernel
theorem k161_6 : decode (mB 161) 6 = .ok (.ldc 53, 2) ∧ tK (mO 161) 53 = some (-1000000) := by decide +kernel
theorem k161_8 : decode (mB 161) 8 = .ok (.if_icmp .ne 7, 3) := by decide +kernel
theorem k161_11 : decode (mB 161) 11 = .ok (.iconst 1, 1) := by decide +kernel
theorem k161_12 : decode (mB 161) 12 = .ok (.goto 4, 3) := by decide +kernel
theorem k161_15 : decode (mB 161) 15 = .ok (.iconst 0, 1) := by decide +kernel
theorem k161_16 : decode (mB 161) 16 = .ok (.ireturn, 1) ∧ mR 161 = (some .boolean) := by decide +kernel
-- 162: ChairPastModel.cut:(II)I, locals 2
theorem l162 : mL 162 = 2 := by decide +kernel
theorem k162_0 : decode (mB 162) 0 = .ok (.iload_n 0, 1) := by decide +kernel
theorem k162_1 : decode (mB 162) 1 = .ok (.ifCond .ne 13, 3) := by decide +kernel
theorem k162_4 : decode (mB 162) 4 = .ok (.iload_n 1, 1) := by decide +kernel
theorem k162_5 : decode (mB 162) 5 = .ok (.bipush 24, 2) := by decide +kernel
theorem k162_7 : decode (mB 162) 7 = .ok (.ishl, 1) := by decide +kernel
theorem k162_8 : decode (mB 162) 8 = .ok (.bipush 24, 2) := by decide +kernel
theorem k162_10 : decode (mB 162) 10 = .ok (.ishr, 1) := by decide +kernel
theorem k162_11 : decode (mB 162) 11 = .ok (.goto 19, 3) := by decide +kernel
theorem k162_14 : decode (mB 162) 14 = .ok (.iload_n 0, 1) := by decide +kernel
theorem k162_15 : decode (mB 162) 15 = .ok (.iconst 1, 1) := by decide +kernel
theorem k162_16 : decode (mB 162) 16 = .ok (.if_icmp .ne 13, 3) := by decide +kernel
theorem k162_19 : decode (mB 162) 19 = .ok (.iload_n 1, 1) := by decide +kernel
theorem k162_20 : decode (mB 162) 20 = .ok (.bipush 16, 2) := by decide +kernel
theorem k162_22 : decode (mB 162) 22 = .ok (.ishl, 1) := by decide +kernel
theorem k162_23 : decode (mB 162) 23 = .ok (.bipush 16, 2) := by decide +kernel
theorem k162_25 : decode (mB 162) 25 = .ok (.ishr, 1) := by decide +kernel
theorem k162_26 : decode (mB 162) 26 = .ok (.goto 4, 3) := by decide +kernel
theorem k162_29 : decode (mB 162) 29 = .ok (.iload_n 1, 1) := by decide +kernel
theorem k162_30 : decode (mB 162) 30 = .ok (.ireturn, 1) ∧ mR 162 = (some .int) := by decide +kernel
-- 163: ChairPastModel.row:(III)I, locals 5
theorem l163 : mL 163 = 5 := by decide +kernel
theorem k163_0 : decode (mB 163) 0 = .ok (.iload_n 1, 1) := by decide +kernel
theorem k163_1 : decode (mB 163) 1 = .ok (.invokestatic 63, 3) ∧ tM (mO 163) 63 = none ∧ tS (mO 163) 63 = some 160 := by decide +kernel
theorem k163_4 : decode (mB 163) 4 = .ok (.ifCond .eq 18, 3) := by decide +kernel
theorem k163_7 : decode (mB 163) 7 = .ok (.iload_n 2, 1) := by decide +kernel
theorem k163_8 : decode (mB 163) 8 = .ok (.iconst 0, 1) := by decide +kernel
theorem k163_9 : decode (mB 163) 9 = .ok (.iconst 2, 1) := by decide +kernel
theorem k163_10 : decode (mB 163) 10 = .ok (.invokestatic 59, 3) ∧ tM (mO 163) 59 = none ∧ tS (mO 163) 59 = some 155 := by decide +kernel
theorem k163_13 : decode (mB 163) 13 = .ok (.ifCond .eq 9, 3) := by decide +kernel
theorem k163_16 : decode (mB 163) 16 = .ok (.iload_n 3, 1) := by decide +kernel
theorem k163_17 : decode (mB 163) 17 = .ok (.bipush 40, 2) := by decide +kernel
theorem k163_19 : decode (mB 163) 19 = .ok (.if_icmp .le 6, 3) := by decide +kernel
theorem k163_22 : decode (mB 163) 22 = .ok (.ldc 67, 2) ∧ tK (mO 163) 67 = some (-1000001) := by decide +kernel
theorem k163_24 : decode (mB 163) 24 = .ok (.ireturn, 1) ∧ mR 163 = (some .int) := by decide +kernel
theorem k163_25 : decode (mB 163) 25 = .ok (.iload_n 3, 1) := by decide +kernel
theorem k163_26 : decode (mB 163) 26 = .ok (.ifCond .ge 9, 3) := by decide +kernel
theorem k163_29 : decode (mB 163) 29 = .ok (.aload_n 0, 1) := by decide +kernel
theorem k163_30 : decode (mB 163) 30 = .ok (.iconst 4, 1) := by decide +kernel
theorem k163_31 : decode (mB 163) 31 = .ok (.invokevirtual 68, 3) ∧ tVn (mO 163) 68 = some 1 ∧ tV (mO 163) 68 11 = some 157 := by decide +kernel
theorem k163_34 : decode (mB 163) 34 = .ok (.ireturn, 1) ∧ mR 163 = (some .int) := by decide +kernel
theorem k163_35 : decode (mB 163) 35 = .ok (.aload_n 0, 1) := by decide +kernel
theorem k163_36 : decode (mB 163) 36 = .ok (.getfield 7, 3) ∧ tF (mO 163) 7 = some (11, 0, 1, 1) := by decide +kernel
theorem k163_39 : decode (mB 163) 39 = .ok (.iload_n 1, 1) := by decide +kernel
theorem k163_40 : decode (mB 163) 40 = .ok (.iload_n 2, 1) := by decide +kernel
theorem k163_41 : decode (mB 163) 41 = .ok (.iastore, 1) := by decide +kernel
theorem k163_42 : decode (mB 163) 42 = .ok (.aload_n 0, 1) := by decide +kernel
theorem k163_43 : decode (mB 163) 43 = .ok (.getfield 13, 3) ∧ tF (mO 163) 13 = some (11, 1, 1, 1) := by decide +kernel
theorem k163_46 : decode (mB 163) 46 = .ok (.iload_n 1, 1) := by decide +kernel
theorem k163_47 : decode (mB 163) 47 = .ok (.iload_n 3, 1) := by decide +kernel
theorem k163_48 : decode (mB 163) 48 = .ok (.iastore, 1) := by decide +kernel
theorem k163_49 : decode (mB 163) 49 = .ok (.iconst 0, 1) := by decide +kernel
theorem k163_50 : decode (mB 163) 50 = .ok (.istore 4, 2) := by decide +kernel
theorem k163_52 : decode (mB 163) 52 = .ok (.iload 4, 2) := by decide +kernel
theorem k163_54 : decode (mB 163) 54 = .ok (.bipush 40, 2) := by decide +kernel
theorem k163_56 : decode (mB 163) 56 = .ok (.if_icmp .ge 22, 3) := by decide +kernel
theorem k163_59 : decode (mB 163) 59 = .ok (.aload_n 0, 1) := by decide +kernel
theorem k163_60 : decode (mB 163) 60 = .ok (.getfield 16, 3) ∧ tF (mO 163) 16 = some (11, 2, 1, 1) := by decide +kernel
theorem k163_63 : decode (mB 163) 63 = .ok (.bipush 40, 2) := by decide +kernel
theorem k163_65 : decode (mB 163) 65 = .ok (.iload_n 1, 1) := by decide +kernel
theorem k163_66 : decode (mB 163) 66 = .ok (.imul, 1) := by decide +kernel
theorem k163_67 : decode (mB 163) 67 = .ok (.iload 4, 2) := by decide +kernel
theorem k163_69 : decode (mB 163) 69 = .ok (.iadd, 1) := by decide +kernel
theorem k163_70 : decode (mB 163) 70 = .ok (.iconst 0, 1) := by decide +kernel
theorem k163_71 : decode (mB 163) 71 = .ok (.iastore, 1) := by decide +kernel
theorem k163_72 : decode (mB 163) 72 = .ok (.iinc 4 1, 3) := by decide +kernel
theorem k163_75 : decode (mB 163) 75 = .ok (.goto (-23), 3) := by decide +kernel
theorem k163_78 : decode (mB 163) 78 = .ok (.aload_n 0, 1) := by decide +kernel
theorem k163_79 : decode (mB 163) 79 = .ok (.iload_n 3, 1) := by decide +kernel
theorem k163_80 : decode (mB 163) 80 = .ok (.invokevirtual 72, 3) ∧ tVn (mO 163) 72 = some 1 ∧ tV (mO 163) 72 11 = some 158 := by decide +kernel
theorem k163_83 : decode (mB 163) 83 = .ok (.ireturn, 1) ∧ mR 163 = (some .int) := by decide +kernel
-- 164: ChairPastModel.set:(III)I, locals 4
theorem l164 : mL 164 = 4 := by decide +kernel
theorem k164_0 : decode (mB 164) 0 = .ok (.iload_n 1, 1) := by decide +kernel
theorem k164_1 : decode (mB 164) 1 = .ok (.invokestatic 63, 3) ∧ tM (mO 164) 63 = none ∧ tS (mO 164) 63 = some 160 := by decide +kernel
theorem k164_4 : decode (mB 164) 4 = .ok (.ifCond .ne 6, 3) := by decide +kernel
theorem k164_7 : decode (mB 164) 7 = .ok (.ldc 67, 2) ∧ tK (mO 164) 67 = some (-1000001) := by decide +kernel
theorem k164_9 : decode (mB 164) 9 = .ok (.ireturn, 1) ∧ mR 164 = (some .int) := by decide +kernel
theorem k164_10 : decode (mB 164) 10 = .ok (.aload_n 0, 1) := by decide +kernel
theorem k164_11 : decode (mB 164) 11 = .ok (.iload_n 1, 1) := by decide +kernel
theorem k164_12 : decode (mB 164) 12 = .ok (.invokevirtual 75, 3) ∧ tVn (mO 164) 75 = some 1 ∧ tV (mO 164) 75 11 = some 161 := by decide +kernel
theorem k164_15 : decode (mB 164) 15 = .ok (.ifCond .eq 9, 3) := by decide +kernel
theorem k164_18 : decode (mB 164) 18 = .ok (.aload_n 0, 1) := by decide +kernel
theorem k164_19 : decode (mB 164) 19 = .ok (.iconst 1, 1) := by decide +kernel
theorem k164_20 : decode (mB 164) 20 = .ok (.invokevirtual 68, 3) ∧ tVn (mO 164) 68 = some 1 ∧ tV (mO 164) 68 11 = some 157 := by decide +kernel
theorem k164_23 : decode (mB 164) 23 = .ok (.ireturn, 1) ∧ mR 164 = (some .int) := by decide +kernel
theorem k164_24 : decode (mB 164) 24 = .ok (.iload_n 2, 1) := by decide +kernel
theorem k164_25 : decode (mB 164) 25 = .ok (.iconst 0, 1) := by decide +kernel
theorem k164_26 : decode (mB 164) 26 = .ok (.aload_n 0, 1) := by decide +kernel
theorem k164_27 : decode (mB 164) 27 = .ok (.getfield 13, 3) ∧ tF (mO 164) 13 = some (11, 1, 1, 1) := by decide +kernel
theorem k164_30 : decode (mB 164) 30 = .ok (.iload_n 1, 1) := by decide +kernel
theorem k164_31 : decode (mB 164) 31 = .ok (.iaload, 1) := by decide +kernel
theorem k164_32 : decode (mB 164) 32 = .ok (.iconst 1, 1) := by decide +kernel
theorem k164_33 : decode (mB 164) 33 = .ok (.isub, 1) := by decide +kernel
theorem k164_34 : decode (mB 164) 34 = .ok (.invokestatic 59, 3) ∧ tM (mO 164) 59 = none ∧ tS (mO 164) 59 = some 155 := by decide +kernel
theorem k164_37 : decode (mB 164) 37 = .ok (.ifCond .ne 9, 3) := by decide +kernel
theorem k164_40 : decode (mB 164) 40 = .ok (.aload_n 0, 1) := by decide +kernel
theorem k164_41 : decode (mB 164) 41 = .ok (.iconst 2, 1) := by decide +kernel
theorem k164_42 : decode (mB 164) 42 = .ok (.invokevirtual 68, 3) ∧ tVn (mO 164) 68 = some 1 ∧ tV (mO 164) 68 11 = some 157 := by decide +kernel
theorem k164_45 : decode (mB 164) 45 = .ok (.ireturn, 1) ∧ mR 164 = (some .int) := by decide +kernel
theorem k164_46 : decode (mB 164) 46 = .ok (.aload_n 0, 1) := by decide +kernel
theorem k164_47 : decode (mB 164) 47 = .ok (.getfield 16, 3) ∧ tF (mO 164) 16 = some (11, 2, 1, 1) := by decide +kernel
theorem k164_50 : decode (mB 164) 50 = .ok (.bipush 40, 2) := by decide +kernel
theorem k164_52 : decode (mB 164) 52 = .ok (.iload_n 1, 1) := by decide +kernel
theorem k164_53 : decode (mB 164) 53 = .ok (.imul, 1) := by decide +kernel
theorem k164_54 : decode (mB 164) 54 = .ok (.iload_n 2, 1) := by decide +kernel
theorem k164_55 : decode (mB 164) 55 = .ok (.iadd, 1) := by decide +kernel
theorem k164_56 : decode (mB 164) 56 = .ok (.aload_n 0, 1) := by decide +kernel
theorem k164_57 : decode (mB 164) 57 = .ok (.getfield 7, 3) ∧ tF (mO 164) 7 = some (11, 0, 1, 1) := by decide +kernel
theorem k164_60 : decode (mB 164) 60 = .ok (.iload_n 1, 1) := by decide +kernel
theorem k164_61 : decode (mB 164) 61 = .ok (.iaload, 1) := by decide +kernel
theorem k164_62 : decode (mB 164) 62 = .ok (.iload_n 3, 1) := by decide +kernel
theorem k164_63 : decode (mB 164) 63 = .ok (.invokestatic 78, 3) ∧ tM (mO 164) 78 = none ∧ tS (mO 164) 78 = some 162 := by decide +kernel
theorem k164_66 : decode (mB 164) 66 = .ok (.iastore, 1) := by decide +kernel
theorem k164_67 : decode (mB 164) 67 = .ok (.aload_n 0, 1) := by decide +kernel
theorem k164_68 : decode (mB 164) 68 = .ok (.aload_n 0, 1) := by decide +kernel
theorem k164_69 : decode (mB 164) 69 = .ok (.getfield 16, 3) ∧ tF (mO 164) 16 = some (11, 2, 1, 1) := by decide +kernel
theorem k164_72 : decode (mB 164) 72 = .ok (.bipush 40, 2) := by decide +kernel
theorem k164_74 : decode (mB 164) 74 = .ok (.iload_n 1, 1) := by decide +kernel
theorem k164_75 : decode (mB 164) 75 = .ok (.imul, 1) := by decide +kernel
theorem k164_76 : decode (mB 164) 76 = .ok (.iload_n 2, 1) := by decide +kernel
theorem k164_77 : decode (mB 164) 77 = .ok (.iadd, 1) := by decide +kernel
theorem k164_78 : decode (mB 164) 78 = .ok (.iaload, 1) := by decide +kernel
theorem k164_79 : decode (mB 164) 79 = .ok (.invokevirtual 72, 3) ∧ tVn (mO 164) 72 = some 1 ∧ tV (mO 164) 72 11 = some 158 := by decide +kernel
theorem k164_82 : decode (mB 164) 82 = .ok (.ireturn, 1) ∧ mR 164 = (some .int) := by decide +kernel
-- 165: ChairPastModel.isPart:(III)Z, locals 4
theorem l165 : mL 165 = 4 := by decide +kernel
theorem k165_0 : decode (mB 165) 0 = .ok (.iload_n 2, 1) := by decide +kernel
theorem k165_1 : decode (mB 165) 1 = .ok (.ifCond .lt 33, 3) := by decide +kernel
theorem k165_4 : decode (mB 165) 4 = .ok (.iload_n 3, 1) := by decide +kernel
theorem k165_5 : decode (mB 165) 5 = .ok (.ifCond .lt 29, 3) := by decide +kernel
theorem k165_8 : decode (mB 165) 8 = .ok (.iload_n 2, 1) := by decide +kernel
theorem k165_9 : decode (mB 165) 9 = .ok (.aload_n 0, 1) := by decide +kernel
theorem k165_10 : decode (mB 165) 10 = .ok (.getfield 13, 3) ∧ tF (mO 165) 13 = some (11, 1, 1, 1) := by decide +kernel
theorem k165_13 : decode (mB 165) 13 = .ok (.iload_n 1, 1) := by decide +kernel
theorem k165_14 : decode (mB 165) 14 = .ok (.iaload, 1) := by decide +kernel
theorem k165_15 : decode (mB 165) 15 = .ok (.if_icmp .gt 19, 3) := by decide +kernel
theorem k165_18 : decode (mB 165) 18 = .ok (.iload_n 3, 1) := by decide +kernel
theorem k165_19 : decode (mB 165) 19 = .ok (.aload_n 0, 1) := by decide +kernel
theorem k165_20 : decode (mB 165) 20 = .ok (.getfield 13, 3) ∧ tF (mO 165) 13 = some (11, 1, 1, 1) := by decide +kernel
theorem k165_23 : decode (mB 165) 23 = .ok (.iload_n 1, 1) := by decide +kernel
theorem k165_24 : decode (mB 165) 24 = .ok (.iaload, 1) := by decide +kernel
theorem k165_25 : decode (mB 165) 25 = .ok (.iload_n 2, 1) := by decide +kernel
theorem k165_26 : decode (mB 165) 26 = .ok (.isub, 1) := by decide +kernel
theorem k165_27 : decode (mB 165) 27 = .ok (.if_icmp .gt 7, 3) := by decide +kernel
theorem k165_30 : decode (mB 165) 30 = .ok (.iconst 1, 1) := by decide +kernel
theorem k165_31 : decode (mB 165) 31 = .ok (.goto 4, 3) := by decide +kernel
theorem k165_34 : decode (mB 165) 34 = .ok (.iconst 0, 1) := by decide +kernel
theorem k165_35 : decode (mB 165) 35 = .ok (.ireturn, 1) ∧ mR 165 = (some .boolean) := by decide +kernel
-- 166: ChairPastModel.copy:(IIIII)I, locals 7
theorem l166 : mL 166 = 7 := by decide +kernel
theorem k166_0 : decode (mB 166) 0 = .ok (.iload_n 1, 1) := by decide +kernel
theorem k166_1 : decode (mB 166) 1 = .ok (.invokestatic 63, 3) ∧ tM (mO 166) 63 = none ∧ tS (mO 166) 63 = some 160 := by decide +kernel
theorem k166_4 : decode (mB 166) 4 = .ok (.ifCond .eq 10, 3) := by decide +kernel
theorem k166_7 : decode (mB 166) 7 = .ok (.iload_n 3, 1) := by decide +kernel
theorem k166_8 : decode (mB 166) 8 = .ok (.invokestatic 63, 3) ∧ tM (mO 166) 63 = none ∧ tS (mO 166) 63 = some 160 := by decide +kernel
theorem k166_11 : decode (mB 166) 11 = .ok (.ifCond .ne 6, 3) := by decide +kernel
theorem k166_14 : decode (mB 166) 14 = .ok (.ldc 67, 2) ∧ tK (mO 166) 67 = some (-1000001) := by decide +kernel
theorem k166_16 : decode (mB 166) 16 = .ok (.ireturn, 1) ∧ mR 166 = (some .int) := by decide +kernel
theorem k166_17 : decode (mB 166) 17 = .ok (.aload_n 0, 1) := by decide +kernel
theorem k166_18 : decode (mB 166) 18 = .ok (.iload_n 1, 1) := by decide +kernel
theorem k166_19 : decode (mB 166) 19 = .ok (.invokevirtual 75, 3) ∧ tVn (mO 166) 75 = some 1 ∧ tV (mO 166) 75 11 = some 161 := by decide +kernel
theorem k166_22 : decode (mB 166) 22 = .ok (.ifCond .ne 11, 3) := by decide +kernel
theorem k166_25 : decode (mB 166) 25 = .ok (.aload_n 0, 1) := by decide +kernel
theorem k166_26 : decode (mB 166) 26 = .ok (.iload_n 3, 1) := by decide +kernel
theorem k166_27 : decode (mB 166) 27 = .ok (.invokevirtual 75, 3) ∧ tVn (mO 166) 75 = some 1 ∧ tV (mO 166) 75 11 = some 161 := by decide +kernel
theorem k166_30 : decode (mB 166) 30 = .ok (.ifCond .eq 9, 3) := by decide +kernel
theorem k166_33 : decode (mB 166) 33 = .ok (.aload_n 0, 1) := by decide +kernel
theorem k166_34 : decode (mB 166) 34 = .ok (.iconst 1, 1) := by decide +kernel
theorem k166_35 : decode (mB 166) 35 = .ok (.invokevirtual 68, 3) ∧ tVn (mO 166) 68 = some 1 ∧ tV (mO 166) 68 11 = some 157 := by decide +kernel
theorem k166_38 : decode (mB 166) 38 = .ok (.ireturn, 1) ∧ mR 166 = (some .int) := by decide +kernel
theorem k166_39 : decode (mB 166) 39 = .ok (.aload_n 0, 1) := by decide +kernel
theorem k166_40 : decode (mB 166) 40 = .ok (.getfield 7, 3) ∧ tF (mO 166) 7 = some (11, 0, 1, 1) := by decide +kernel
theorem k166_43 : decode (mB 166) 43 = .ok (.iload_n 1, 1) := by decide +kernel
theorem k166_44 : decode (mB 166) 44 = .ok (.iaload, 1) := by decide +kernel
theorem k166_45 : decode (mB 166) 45 = .ok (.aload_n 0, 1) := by decide +kernel
theorem k166_46 : decode (mB 166) 46 = .ok (.getfield 7, 3) ∧ tF (mO 166) 7 = some (11, 0, 1, 1) := by decide +kernel
theorem k166_49 : decode (mB 166) 49 = .ok (.iload_n 3, 1) := by decide +kernel
theorem k166_50 : decode (mB 166) 50 = .ok (.iaload, 1) := by decide +kernel
theorem k166_51 : decode (mB 166) 51 = .ok (.if_icmp .eq 9, 3) := by decide +kernel
theorem k166_54 : decode (mB 166) 54 = .ok (.aload_n 0, 1) := by decide +kernel
theorem k166_55 : decode (mB 166) 55 = .ok (.iconst 5, 1) := by decide +kernel
theorem k166_56 : decode (mB 166) 56 = .ok (.invokevirtual 68, 3) ∧ tVn (mO 166) 68 = some 1 ∧ tV (mO 166) 68 11 = some 157 := by decide +kernel
theorem k166_59 : decode (mB 166) 59 = .ok (.ireturn, 1) ∧ mR 166 = (some .int) := by decide +kernel
theorem k166_60 : decode (mB 166) 60 = .ok (.aload_n 0, 1) := by decide +kernel
theorem k166_61 : decode (mB 166) 61 = .ok (.iload_n 1, 1) := by decide +kernel
theorem k166_62 : decode (mB 166) 62 = .ok (.iload_n 2, 1) := by decide +kernel
theorem k166_63 : decode (mB 166) 63 = .ok (.iload 5, 2) := by decide +kernel
theorem k166_65 : decode (mB 166) 65 = .ok (.invokevirtual 82, 3) ∧ tVn (mO 166) 82 = some 3 ∧ tV (mO 166) 82 11 = some 165 := by decide +kernel
theorem k166_68 : decode (mB 166) 68 = .ok (.ifCond .eq 15, 3) := by decide +kernel
theorem k166_71 : decode (mB 166) 71 = .ok (.aload_n 0, 1) := by decide +kernel
theorem k166_72 : decode (mB 166) 72 = .ok (.iload_n 3, 1) := by decide +kernel
theorem k166_73 : decode (mB 166) 73 = .ok (.iload 4, 2) := by decide +kernel
theorem k166_75 : decode (mB 166) 75 = .ok (.iload 5, 2) := by decide +kernel
theorem k166_77 : decode (mB 166) 77 = .ok (.invokevirtual 82, 3) ∧ tVn (mO 166) 82 = some 3 ∧ tV (mO 166) 82 11 = some 165 := by decide +kernel
theorem k166_80 : decode (mB 166) 80 = .ok (.ifCond .ne 9, 3) := by decide +kernel
theorem k166_83 : decode (mB 166) 83 = .ok (.aload_n 0, 1) := by decide +kernel
theorem k166_84 : decode (mB 166) 84 = .ok (.iconst 2, 1) := by decide +kernel
theorem k166_85 : decode (mB 166) 85 = .ok (.invokevirtual 68, 3) ∧ tVn (mO 166) 68 = some 1 ∧ tV (mO 166) 68 11 = some 157 := by decide +kernel
theorem k166_88 : decode (mB 166) 88 = .ok (.ireturn, 1) ∧ mR 166 = (some .int) := by decide +kernel
theorem k166_89 : decode (mB 166) 89 = .ok (.iconst 0, 1) := by decide +kernel
theorem k166_90 : decode (mB 166) 90 = .ok (.istore 6, 2) := by decide +kernel
theorem k166_92 : decode (mB 166) 92 = .ok (.iload 6, 2) := by decide +kernel
theorem k166_94 : decode (mB 166) 94 = .ok (.iload 5, 2) := by decide +kernel
theorem k166_96 : decode (mB 166) 96 = .ok (.if_icmp .ge 30, 3) := by decide +kernel
theorem k166_99 : decode (mB 166) 99 = .ok (.aload_n 0, 1) := by decide +kernel
theorem k166_100 : decode (mB 166) 100 = .ok (.getfield 19, 3) ∧ tF (mO 166) 19 = some (11, 3, 1, 1) := by decide +kernel
theorem k166_103 : decode (mB 166) 103 = .ok (.iload 6, 2) := by decide +kernel
theorem k166_105 : decode (mB 166) 105 = .ok (.aload_n 0, 1) := by decide +kernel
theorem k166_106 : decode (mB 166) 106 = .ok (.getfield 16, 3) ∧ tF (mO 166) 16 = some (11, 2, 1, 1) := by decide +kernel
theorem k166_109 : decode (mB 166) 109 = .ok (.bipush 40, 2) := by decide +kernel
theorem k166_111 : decode (mB 166) 111 = .ok (.iload_n 1, 1) := by decide +kernel
theorem k166_112 : decode (mB 166) 112 = .ok (.imul, 1) := by decide +kernel
theorem k166_113 : decode (mB 166) 113 = .ok (.iload_n 2, 1) := by decide +kernel
theorem k166_114 : decode (mB 166) 114 = .ok (.iadd, 1) := by decide +kernel
theorem k166_115 : decode (mB 166) 115 = .ok (.iload 6, 2) := by decide +kernel
theorem k166_117 : decode (mB 166) 117 = .ok (.iadd, 1) := by decide +kernel
theorem k166_118 : decode (mB 166) 118 = .ok (.iaload, 1) := by decide +kernel
theorem k166_119 : decode (mB 166) 119 = .ok (.iastore, 1) := by decide +kernel
theorem k166_120 : decode (mB 166) 120 = .ok (.iinc 6 1, 3) := by decide +kernel
theorem k166_123 : decode (mB 166) 123 = .ok (.goto (-31), 3) := by decide +kernel
theorem k166_126 : decode (mB 166) 126 = .ok (.iconst 0, 1) := by decide +kernel
theorem k166_127 : decode (mB 166) 127 = .ok (.istore 6, 2) := by decide +kernel
theorem k166_129 : decode (mB 166) 129 = .ok (.iload 6, 2) := by decide +kernel
theorem k166_131 : decode (mB 166) 131 = .ok (.iload 5, 2) := by decide +kernel
theorem k166_133 : decode (mB 166) 133 = .ok (.if_icmp .ge 31, 3) := by decide +kernel
theorem k166_136 : decode (mB 166) 136 = .ok (.aload_n 0, 1) := by decide +kernel
theorem k166_137 : decode (mB 166) 137 = .ok (.getfield 16, 3) ∧ tF (mO 166) 16 = some (11, 2, 1, 1) := by decide +kernel
theorem k166_140 : decode (mB 166) 140 = .ok (.bipush 40, 2) := by decide +kernel
theorem k166_142 : decode (mB 166) 142 = .ok (.iload_n 3, 1) := by decide +kernel
theorem k166_143 : decode (mB 166) 143 = .ok (.imul, 1) := by decide +kernel
theorem k166_144 : decode (mB 166) 144 = .ok (.iload 4, 2) := by decide +kernel
theorem k166_146 : decode (mB 166) 146 = .ok (.iadd, 1) := by decide +kernel
theorem k166_147 : decode (mB 166) 147 = .ok (.iload 6, 2) := by decide +kernel
theorem k166_149 : decode (mB 166) 149 = .ok (.iadd, 1) := by decide +kernel
theorem k166_150 : decode (mB 166) 150 = .ok (.aload_n 0, 1) := by decide +kernel
theorem k166_151 : decode (mB 166) 151 = .ok (.getfield 19, 3) ∧ tF (mO 166) 19 = some (11, 3, 1, 1) := by decide +kernel
theorem k166_154 : decode (mB 166) 154 = .ok (.iload 6, 2) := by decide +kernel
theorem k166_156 : decode (mB 166) 156 = .ok (.iaload, 1) := by decide +kernel
theorem k166_157 : decode (mB 166) 157 = .ok (.iastore, 1) := by decide +kernel
theorem k166_158 : decode (mB 166) 158 = .ok (.iinc 6 1, 3) := by decide +kernel
theorem k166_161 : decode (mB 166) 161 = .ok (.goto (-32), 3) := by decide +kernel
theorem k166_164 : decode (mB 166) 164 = .ok (.aload_n 0, 1) := by decide +kernel
theorem k166_165 : decode (mB 166) 165 = .ok (.iload 5, 2) := by decide +kernel
theorem k166_167 : decode (mB 166) 167 = .ok (.invokevirtual 72, 3) ∧ tVn (mO 166) 72 = some 1 ∧ tV (mO 166) 72 11 = some 158 := by decide +kernel
theorem k166_170 : decode (mB 166) 170 = .ok (.ireturn, 1) ∧ mR 166 = (some .int) := by decide +kernel
-- 167: ChairPastModel.drop:(I)I, locals 2
theorem l167 : mL 167 = 2 := by decide +kernel
theorem k167_0 : decode (mB 167) 0 = .ok (.iload_n 1, 1) := by decide +kernel
theorem k167_1 : decode (mB 167) 1 = .ok (.invokestatic 63, 3) ∧ tM (mO 167) 63 = none ∧ tS (mO 167) 63 = some 160 := by decide +kernel
theorem k167_4 : decode (mB 167) 4 = .ok (.ifCond .ne 6, 3) := by decide +kernel
theorem k167_7 : decode (mB 167) 7 = .ok (.ldc 67, 2) ∧ tK (mO 167) 67 = some (-1000001) := by decide +kernel
theorem k167_9 : decode (mB 167) 9 = .ok (.ireturn, 1) ∧ mR 167 = (some .int) := by decide +kernel
theorem k167_10 : decode (mB 167) 10 = .ok (.aload_n 0, 1) := by decide +kernel
theorem k167_11 : decode (mB 167) 11 = .ok (.iload_n 1, 1) := by decide +kernel
theorem k167_12 : decode (mB 167) 12 = .ok (.invokevirtual 75, 3) ∧ tVn (mO 167) 75 = some 1 ∧ tV (mO 167) 75 11 = some 161 := by decide +kernel
theorem k167_15 : decode (mB 167) 15 = .ok (.ifCond .eq 9, 3) := by decide +kernel
theorem k167_18 : decode (mB 167) 18 = .ok (.aload_n 0, 1) := by decide +kernel
theorem k167_19 : decode (mB 167) 19 = .ok (.iconst 1, 1) := by decide +kernel
theorem k167_20 : decode (mB 167) 20 = .ok (.invokevirtual 68, 3) ∧ tVn (mO 167) 68 = some 1 ∧ tV (mO 167) 68 11 = some 157 := by decide +kernel
theorem k167_23 : decode (mB 167) 23 = .ok (.ireturn, 1) ∧ mR 167 = (some .int) := by decide +kernel
theorem k167_24 : decode (mB 167) 24 = .ok (.aload_n 0, 1) := by decide +kernel
theorem k167_25 : decode (mB 167) 25 = .ok (.getfield 7, 3) ∧ tF (mO 167) 7 = some (11, 0, 1, 1) := by decide +kernel
theorem k167_28 : decode (mB 167) 28 = .ok (.iload_n 1, 1) := by decide +kernel
theorem k167_29 : decode (mB 167) 29 = .ok (.ldc 53, 2) ∧ tK (mO 167) 53 = some (-1000000) := by decide +kernel
theorem k167_31 : decode (mB 167) 31 = .ok (.iastore, 1) := by decide +kernel
theorem k167_32 : decode (mB 167) 32 = .ok (.aload_n 0, 1) := by decide +kernel
theorem k167_33 : decode (mB 167) 33 = .ok (.aload_n 0, 1) := by decide +kernel
theorem k167_34 : decode (mB 167) 34 = .ok (.getfield 13, 3) ∧ tF (mO 167) 13 = some (11, 1, 1, 1) := by decide +kernel
theorem k167_37 : decode (mB 167) 37 = .ok (.iload_n 1, 1) := by decide +kernel
theorem k167_38 : decode (mB 167) 38 = .ok (.iaload, 1) := by decide +kernel
theorem k167_39 : decode (mB 167) 39 = .ok (.invokevirtual 72, 3) ∧ tVn (mO 167) 72 = some 1 ∧ tV (mO 167) 72 11 = some 158 := by decide +kernel
theorem k167_42 : decode (mB 167) 42 = .ok (.ireturn, 1) ∧ mR 167 = (some .int) := by decide +kernel
-- 168: ChairPastModel.feed:(I)I, locals 2
theorem l168 : mL 168 = 2 := by decide +kernel
theorem k168_0 : decode (mB 168) 0 = .ok (.iload_n 1, 1) := by decide +kernel
theorem k168_1 : decode (mB 168) 1 = .ok (.iconst 0, 1) := by decide +kernel
theorem k168_2 : decode (mB 168) 2 = .ok (.sipush 255, 3) := by decide +kernel
theorem k168_5 : decode (mB 168) 5 = .ok (.invokestatic 59, 3) ∧ tM (mO 168) 59 = none ∧ tS (mO 168) 59 = some 155 := by decide +kernel
theorem k168_8 : decode (mB 168) 8 = .ok (.ifCond .ne 6, 3) := by decide +kernel
theorem k168_11 : decode (mB 168) 11 = .ok (.ldc 67, 2) ∧ tK (mO 168) 67 = some (-1000001) := by decide +kernel
theorem k168_13 : decode (mB 168) 13 = .ok (.ireturn, 1) ∧ mR 168 = (some .int) := by decide +kernel
theorem k168_14 : decode (mB 168) 14 = .ok (.aload_n 0, 1) := by decide +kernel
theorem k168_15 : decode (mB 168) 15 = .ok (.getfield 85, 3) ∧ tF (mO 168) 85 = some (11, 6, 0, 0) := by decide +kernel
theorem k168_18 : decode (mB 168) 18 = .ok (.bipush 100, 2) := by decide +kernel
theorem k168_20 : decode (mB 168) 20 = .ok (.if_icmp .ne 6, 3) := by decide +kernel
theorem k168_23 : decode (mB 168) 23 = .ok (.ldc 88, 2) ∧ tK (mO 168) 88 = some (-1000003) := by decide +kernel
theorem k168_25 : decode (mB 168) 25 = .ok (.ireturn, 1) ∧ mR 168 = (some .int) := by decide +kernel
theorem k168_26 : decode (mB 168) 26 = .ok (.aload_n 0, 1) := by decide +kernel
theorem k168_27 : decode (mB 168) 27 = .ok (.getfield 22, 3) ∧ tF (mO 168) 22 = some (11, 5, 1, 1) := by decide +kernel
theorem k168_30 : decode (mB 168) 30 = .ok (.aload_n 0, 1) := by decide +kernel
theorem k168_31 : decode (mB 168) 31 = .ok (.getfield 85, 3) ∧ tF (mO 168) 85 = some (11, 6, 0, 0) := by decide +kernel
theorem k168_34 : decode (mB 168) 34 = .ok (.iload_n 1, 1) := by decide +kernel
theorem k168_35 : decode (mB 168) 35 = .ok (.iastore, 1) := by decide +kernel
theorem k168_36 : decode (mB 168) 36 = .ok (.aload_n 0, 1) := by decide +kernel
theorem k168_37 : decode (mB 168) 37 = .ok (.dup, 1) := by decide +kernel
theorem k168_38 : decode (mB 168) 38 = .ok (.getfield 85, 3) ∧ tF (mO 168) 85 = some (11, 6, 0, 0) := by decide +kernel
theorem k168_41 : decode (mB 168) 41 = .ok (.iconst 1, 1) := by decide +kernel
theorem k168_42 : decode (mB 168) 42 = .ok (.iadd, 1) := by decide +kernel
theorem k168_43 : decode (mB 168) 43 = .ok (.putfield 85, 3) ∧ tF (mO 168) 85 = some (11, 6, 0, 0) := by decide +kernel
theorem k168_46 : decode (mB 168) 46 = .ok (.aload_n 0, 1) := by decide +kernel
theorem k168_47 : decode (mB 168) 47 = .ok (.getfield 85, 3) ∧ tF (mO 168) 85 = some (11, 6, 0, 0) := by decide +kernel
theorem k168_50 : decode (mB 168) 50 = .ok (.ireturn, 1) ∧ mR 168 = (some .int) := by decide +kernel
-- 169: ChairPastModel.byteAt:(I)I, locals 2
theorem l169 : mL 169 = 2 := by decide +kernel
theorem k169_0 : decode (mB 169) 0 = .ok (.iload_n 1, 1) := by decide +kernel
theorem k169_1 : decode (mB 169) 1 = .ok (.aload_n 0, 1) := by decide +kernel
theorem k169_2 : decode (mB 169) 2 = .ok (.getfield 85, 3) ∧ tF (mO 169) 85 = some (11, 6, 0, 0) := by decide +kernel
theorem k169_5 : decode (mB 169) 5 = .ok (.if_icmp .ge 12, 3) := by decide +kernel
theorem k169_8 : decode (mB 169) 8 = .ok (.aload_n 0, 1) := by decide +kernel
theorem k169_9 : decode (mB 169) 9 = .ok (.getfield 22, 3) ∧ tF (mO 169) 22 = some (11, 5, 1, 1) := by decide +kernel
theorem k169_12 : decode (mB 169) 12 = .ok (.iload_n 1, 1) := by decide +kernel
theorem k169_13 : decode (mB 169) 13 = .ok (.iaload, 1) := by decide +kernel
theorem k169_14 : decode (mB 169) 14 = .ok (.goto 4, 3) := by decide +kernel
theorem k169_17 : decode (mB 169) 17 = .ok (.iconst (-1), 1) := by decide +kernel
theorem k169_18 : decode (mB 169) 18 = .ok (.ireturn, 1) ∧ mR 169 = (some .int) := by decide +kernel
end
section
-- 170: ChairPastModel.advances:()V, locals 2
theorem l170 : mL 170 = 2 := by decide +kernel
theorem k170_0 : decode (mB 170) 0 = .ok (.aload_n 0, 1) := by decide +kernel
theorem k170_1 : decode (mB 170) 1 = .ok (.aload_n 0, 1) := by decide +kernel
theorem k170_2 : decode (mB 170) 2 = .ok (.getfield 89, 3) ∧ tF (mO 170) 89 = some (11, 9, 0, 0) := by decide +kernel
theorem k170_5 : decode (mB 170) 5 = .ok (.putfield 92, 3) ∧ tF (mO 170) 92 = some (11, 10, 0, 0) := by decide +kernel
theorem k170_8 : decode (mB 170) 8 = .ok (.aload_n 0, 1) := by decide +kernel
theorem k170_9 : decode (mB 170) 9 = .ok (.aload_n 0, 1) := by decide +kernel
theorem k170_10 : decode (mB 170) 10 = .ok (.getfield 89, 3) ∧ tF (mO 170) 89 = some (11, 9, 0, 0) := by decide +kernel
theorem k170_13 : decode (mB 170) 13 = .ok (.invokevirtual 95, 3) ∧ tVn (mO 170) 95 = some 1 ∧ tV (mO 170) 95 11 = some 169 := by decide +kernel
theorem k170_16 : decode (mB 170) 16 = .ok (.istore_n 1, 1) := by decide +kernel
theorem k170_17 : decode (mB 170) 17 = .ok (.aload_n 0, 1) := by decide +kernel
theorem k170_18 : decode (mB 170) 18 = .ok (.iload_n 1, 1) := by decide +kernel
theorem k170_19 : decode (mB 170) 19 = .ok (.putfield 98, 3) ∧ tF (mO 170) 98 = some (11, 12, 0, 0) := by decide +kernel
theorem k170_22 : decode (mB 170) 22 = .ok (.iload_n 1, 1) := by decide +kernel
theorem k170_23 : decode (mB 170) 23 = .ok (.bipush 48, 2) := by decide +kernel
theorem k170_25 : decode (mB 170) 25 = .ok (.bipush 57, 2) := by decide +kernel
theorem k170_27 : decode (mB 170) 27 = .ok (.invokestatic 59, 3) ∧ tM (mO 170) 59 = none ∧ tS (mO 170) 59 = some 155 := by decide +kernel
theorem k170_30 : decode (mB 170) 30 = .ok (.ifCond .eq 105, 3) := by decide +kernel
theorem k170_33 : decode (mB 170) 33 = .ok (.aload_n 0, 1) := by decide +kernel
theorem k170_34 : decode (mB 170) 34 = .ok (.iconst 0, 1) := by decide +kernel
theorem k170_35 : decode (mB 170) 35 = .ok (.putfield 98, 3) ∧ tF (mO 170) 98 = some (11, 12, 0, 0) := by decide +kernel
theorem k170_38 : decode (mB 170) 38 = .ok (.aload_n 0, 1) := by decide +kernel
theorem k170_39 : decode (mB 170) 39 = .ok (.aload_n 0, 1) := by decide +kernel
theorem k170_40 : decode (mB 170) 40 = .ok (.getfield 89, 3) ∧ tF (mO 170) 89 = some (11, 9, 0, 0) := by decide +kernel
theorem k170_43 : decode (mB 170) 43 = .ok (.invokevirtual 95, 3) ∧ tVn (mO 170) 95 = some 1 ∧ tV (mO 170) 95 11 = some 169 := by decide +kernel
theorem k170_46 : decode (mB 170) 46 = .ok (.bipush 48, 2) := by decide +kernel
theorem k170_48 : decode (mB 170) 48 = .ok (.bipush 57, 2) := by decide +kernel
theorem k170_50 : decode (mB 170) 50 = .ok (.invokestatic 59, 3) ∧ tM (mO 170) 59 = none ∧ tS (mO 170) 59 = some 155 := by decide +kernel
theorem k170_53 : decode (mB 170) 53 = .ok (.ifCond .eq 59, 3) := by decide +kernel
theorem k170_56 : decode (mB 170) 56 = .ok (.aload_n 0, 1) := by decide +kernel
theorem k170_57 : decode (mB 170) 57 = .ok (.aload_n 0, 1) := by decide +kernel
theorem k170_58 : decode (mB 170) 58 = .ok (.getfield 89, 3) ∧ tF (mO 170) 89 = some (11, 9, 0, 0) := by decide +kernel
theorem k170_61 : decode (mB 170) 61 = .ok (.aload_n 0, 1) := by decide +kernel
theorem k170_62 : decode (mB 170) 62 = .ok (.getfield 92, 3) ∧ tF (mO 170) 92 = some (11, 10, 0, 0) := by decide +kernel
theorem k170_65 : decode (mB 170) 65 = .ok (.isub, 1) := by decide +kernel
theorem k170_66 : decode (mB 170) 66 = .ok (.iconst 2, 1) := by decide +kernel
theorem k170_67 : decode (mB 170) 67 = .ok (.if_icmp .ge 25, 3) := by decide +kernel
theorem k170_70 : decode (mB 170) 70 = .ok (.bipush 10, 2) := by decide +kernel
theorem k170_72 : decode (mB 170) 72 = .ok (.aload_n 0, 1) := by decide +kernel
theorem k170_73 : decode (mB 170) 73 = .ok (.getfield 98, 3) ∧ tF (mO 170) 98 = some (11, 12, 0, 0) := by decide +kernel
theorem k170_76 : decode (mB 170) 76 = .ok (.imul, 1) := by decide +kernel
theorem k170_77 : decode (mB 170) 77 = .ok (.aload_n 0, 1) := by decide +kernel
theorem k170_78 : decode (mB 170) 78 = .ok (.aload_n 0, 1) := by decide +kernel
theorem k170_79 : decode (mB 170) 79 = .ok (.getfield 89, 3) ∧ tF (mO 170) 89 = some (11, 9, 0, 0) := by decide +kernel
theorem k170_82 : decode (mB 170) 82 = .ok (.invokevirtual 95, 3) ∧ tVn (mO 170) 95 = some 1 ∧ tV (mO 170) 95 11 = some 169 := by decide +kernel
theorem k170_85 : decode (mB 170) 85 = .ok (.iadd, 1) := by decide +kernel
theorem k170_86 : decode (mB 170) 86 = .ok (.bipush 48, 2) := by decide +kernel
theorem k170_88 : decode (mB 170) 88 = .ok (.isub, 1) := by decide +kernel
theorem k170_89 : decode (mB 170) 89 = .ok (.goto 7, 3) := by decide +kernel
theorem k170_92 : decode (mB 170) 92 = .ok (.aload_n 0, 1) := by decide +kernel
theorem k170_93 : decode (mB 170) 93 = .ok (.getfield 98, 3) ∧ tF (mO 170) 98 = some (11, 12, 0, 0) := by decide +kernel
theorem k170_96 : decode (mB 170) 96 = .ok (.putfield 98, 3) ∧ tF (mO 170) 98 = some (11, 12, 0, 0) := by decide +kernel
theorem k170_99 : decode (mB 170) 99 = .ok (.aload_n 0, 1) := by decide +kernel
theorem k170_100 : decode (mB 170) 100 = .ok (.dup, 1) := by decide +kernel
theorem k170_101 : decode (mB 170) 101 = .ok (.getfield 89, 3) ∧ tF (mO 170) 89 = some (11, 9, 0, 0) := by decide +kernel
theorem k170_104 : decode (mB 170) 104 = .ok (.iconst 1, 1) := by decide +kernel
theorem k170_105 : decode (mB 170) 105 = .ok (.iadd, 1) := by decide +kernel
theorem k170_106 : decode (mB 170) 106 = .ok (.putfield 89, 3) ∧ tF (mO 170) 89 = some (11, 9, 0, 0) := by decide +kernel
theorem k170_109 : decode (mB 170) 109 = .ok (.goto (-71), 3) := by decide +kernel
theorem k170_112 : decode (mB 170) 112 = .ok (.aload_n 0, 1) := by decide +kernel
theorem k170_113 : decode (mB 170) 113 = .ok (.aload_n 0, 1) := by decide +kernel
theorem k170_114 : decode (mB 170) 114 = .ok (.getfield 89, 3) ∧ tF (mO 170) 89 = some (11, 9, 0, 0) := by decide +kernel
theorem k170_117 : decode (mB 170) 117 = .ok (.aload_n 0, 1) := by decide +kernel
theorem k170_118 : decode (mB 170) 118 = .ok (.getfield 92, 3) ∧ tF (mO 170) 92 = some (11, 10, 0, 0) := by decide +kernel
theorem k170_121 : decode (mB 170) 121 = .ok (.isub, 1) := by decide +kernel
theorem k170_122 : decode (mB 170) 122 = .ok (.iconst 3, 1) := by decide +kernel
theorem k170_123 : decode (mB 170) 123 = .ok (.if_icmp .ge 7, 3) := by decide +kernel
theorem k170_126 : decode (mB 170) 126 = .ok (.iconst 2, 1) := by decide +kernel
theorem k170_127 : decode (mB 170) 127 = .ok (.goto 4, 3) := by decide +kernel
theorem k170_130 : decode (mB 170) 130 = .ok (.iconst 5, 1) := by decide +kernel
theorem k170_131 : decode (mB 170) 131 = .ok (.putfield 101, 3) ∧ tF (mO 170) 101 = some (11, 11, 0, 0) := by decide +kernel
theorem k170_134 : decode (mB 170) 134 = .ok (.return_, 1) ∧ mR 170 = none := by decide +kernel
theorem k170_135 : decode (mB 170) 135 = .ok (.aload_n 0, 1) := by decide +kernel
theorem k170_136 : decode (mB 170) 136 = .ok (.iload_n 1, 1) := by decide +kernel
theorem k170_137 : decode (mB 170) 137 = .ok (.ifCond .ge 7, 3) := by decide +kernel
theorem k170_140 : decode (mB 170) 140 = .ok (.iconst 0, 1) := by decide +kernel
theorem k170_141 : decode (mB 170) 141 = .ok (.goto 39, 3) := by decide +kernel
theorem k170_144 : decode (mB 170) 144 = .ok (.iload_n 1, 1) := by decide +kernel
theorem k170_145 : decode (mB 170) 145 = .ok (.bipush 97, 2) := by decide +kernel
theorem k170_147 : decode (mB 170) 147 = .ok (.bipush 122, 2) := by decide +kernel
theorem k170_149 : decode (mB 170) 149 = .ok (.invokestatic 59, 3) ∧ tM (mO 170) 59 = none ∧ tS (mO 170) 59 = some 155 := by decide +kernel
theorem k170_152 : decode (mB 170) 152 = .ok (.ifCond .eq 7, 3) := by decide +kernel
theorem k170_155 : decode (mB 170) 155 = .ok (.iconst 1, 1) := by decide +kernel
theorem k170_156 : decode (mB 170) 156 = .ok (.goto 24, 3) := by decide +kernel
theorem k170_159 : decode (mB 170) 159 = .ok (.iload_n 1, 1) := by decide +kernel
theorem k170_160 : decode (mB 170) 160 = .ok (.bipush 44, 2) := by decide +kernel
theorem k170_162 : decode (mB 170) 162 = .ok (.if_icmp .ne 7, 3) := by decide +kernel
theorem k170_165 : decode (mB 170) 165 = .ok (.iconst 3, 1) := by decide +kernel
theorem k170_166 : decode (mB 170) 166 = .ok (.goto 14, 3) := by decide +kernel
theorem k170_169 : decode (mB 170) 169 = .ok (.iload_n 1, 1) := by decide +kernel
theorem k170_170 : decode (mB 170) 170 = .ok (.bipush 59, 2) := by decide +kernel
theorem k170_172 : decode (mB 170) 172 = .ok (.if_icmp .ne 7, 3) := by decide +kernel
theorem k170_175 : decode (mB 170) 175 = .ok (.iconst 4, 1) := by decide +kernel
theorem k170_176 : decode (mB 170) 176 = .ok (.goto 4, 3) := by decide +kernel
theorem k170_179 : decode (mB 170) 179 = .ok (.iconst 5, 1) := by decide +kernel
theorem k170_180 : decode (mB 170) 180 = .ok (.putfield 101, 3) ∧ tF (mO 170) 101 = some (11, 11, 0, 0) := by decide +kernel
theorem k170_183 : decode (mB 170) 183 = .ok (.aload_n 0, 1) := by decide +kernel
theorem k170_184 : decode (mB 170) 184 = .ok (.dup, 1) := by decide +kernel
theorem k170_185 : decode (mB 170) 185 = .ok (.getfield 89, 3) ∧ tF (mO 170) 89 = some (11, 9, 0, 0) := by decide +kernel
theorem k170_188 : decode (mB 170) 188 = .ok (.aload_n 0, 1) := by decide +kernel
theorem k170_189 : decode (mB 170) 189 = .ok (.getfield 101, 3) ∧ tF (mO 170) 101 = some (11, 11, 0, 0) := by decide +kernel
theorem k170_192 : decode (mB 170) 192 = .ok (.ifCond .ne 7, 3) := by decide +kernel
theorem k170_195 : decode (mB 170) 195 = .ok (.iconst 0, 1) := by decide +kernel
theorem k170_196 : decode (mB 170) 196 = .ok (.goto 4, 3) := by decide +kernel
theorem k170_199 : decode (mB 170) 199 = .ok (.iconst 1, 1) := by decide +kernel
theorem k170_200 : decode (mB 170) 200 = .ok (.iadd, 1) := by decide +kernel
theorem k170_201 : decode (mB 170) 201 = .ok (.putfield 89, 3) ∧ tF (mO 170) 89 = some (11, 9, 0, 0) := by decide +kernel
theorem k170_204 : decode (mB 170) 204 = .ok (.return_, 1) ∧ mR 170 = none := by decide +kernel
-- 171: ChairPastModel.isWell:()Z, locals 1
theorem l171 : mL 171 = 1 := by decide +kernel
theorem k171_0 : decode (mB 171) 0 = .ok (.aload_n 0, 1) := by decide +kernel
theorem k171_1 : decode (mB 171) 1 = .ok (.getfield 104, 3) ∧ tF (mO 171) 104 = some (11, 8, 0, 0) := by decide +kernel
theorem k171_4 : decode (mB 171) 4 = .ok (.ifCond .ge 7, 3) := by decide +kernel
theorem k171_7 : decode (mB 171) 7 = .ok (.iconst 1, 1) := by decide +kernel
theorem k171_8 : decode (mB 171) 8 = .ok (.goto 4, 3) := by decide +kernel
theorem k171_11 : decode (mB 171) 11 = .ok (.iconst 0, 1) := by decide +kernel
theorem k171_12 : decode (mB 171) 12 = .ok (.ireturn, 1) ∧ mR 171 = (some .boolean) := by decide +kernel
-- 172: ChairPastModel.takes:(ZI)I, locals 4
theorem l172 : mL 172 = 4 := by decide +kernel
theorem k172_0 : decode (mB 172) 0 = .ok (.aload_n 0, 1) := by decide +kernel
theorem k172_1 : decode (mB 172) 1 = .ok (.invokevirtual 107, 3) ∧ tVn (mO 172) 107 = some 0 ∧ tV (mO 172) 107 11 = some 171 := by decide +kernel
theorem k172_4 : decode (mB 172) 4 = .ok (.ifCond .ne 5, 3) := by decide +kernel
theorem k172_7 : decode (mB 172) 7 = .ok (.iconst 0, 1) := by decide +kernel
theorem k172_8 : decode (mB 172) 8 = .ok (.ireturn, 1) ∧ mR 172 = (some .int) := by decide +kernel
theorem k172_9 : decode (mB 172) 9 = .ok (.iload_n 1, 1) := by decide +kernel
theorem k172_10 : decode (mB 172) 10 = .ok (.ifCond .ne 18, 3) := by decide +kernel
theorem k172_13 : decode (mB 172) 13 = .ok (.aload_n 0, 1) := by decide +kernel
theorem k172_14 : decode (mB 172) 14 = .ok (.aload_n 0, 1) := by decide +kernel
theorem k172_15 : decode (mB 172) 15 = .ok (.getfield 92, 3) ∧ tF (mO 172) 92 = some (11, 10, 0, 0) := by decide +kernel
theorem k172_18 : decode (mB 172) 18 = .ok (.putfield 104, 3) ∧ tF (mO 172) 104 = some (11, 8, 0, 0) := by decide +kernel
theorem k172_21 : decode (mB 172) 21 = .ok (.aload_n 0, 1) := by decide +kernel
theorem k172_22 : decode (mB 172) 22 = .ok (.iload_n 2, 1) := by decide +kernel
theorem k172_23 : decode (mB 172) 23 = .ok (.putfield 111, 3) ∧ tF (mO 172) 111 = some (11, 7, 0, 0) := by decide +kernel
theorem k172_26 : decode (mB 172) 26 = .ok (.iconst 0, 1) := by decide +kernel
theorem k172_27 : decode (mB 172) 27 = .ok (.ireturn, 1) ∧ mR 172 = (some .int) := by decide +kernel
theorem k172_28 : decode (mB 172) 28 = .ok (.aload_n 0, 1) := by decide +kernel
theorem k172_29 : decode (mB 172) 29 = .ok (.getfield 98, 3) ∧ tF (mO 172) 98 = some (11, 12, 0, 0) := by decide +kernel
theorem k172_32 : decode (mB 172) 32 = .ok (.istore_n 3, 1) := by decide +kernel
theorem k172_33 : decode (mB 172) 33 = .ok (.aload_n 0, 1) := by decide +kernel
theorem k172_34 : decode (mB 172) 34 = .ok (.invokevirtual 114, 3) ∧ tVn (mO 172) 114 = some 0 ∧ tV (mO 172) 114 11 = some 170 := by decide +kernel
theorem k172_37 : decode (mB 172) 37 = .ok (.iload_n 3, 1) := by decide +kernel
theorem k172_38 : decode (mB 172) 38 = .ok (.ireturn, 1) ∧ mR 172 = (some .int) := by decide +kernel
-- 173: ChairPastModel.figure:(II)I, locals 3
theorem l173 : mL 173 = 3 := by decide +kernel
theorem k173_0 : decode (mB 173) 0 = .ok (.aload_n 0, 1) := by decide +kernel
theorem k173_1 : decode (mB 173) 1 = .ok (.invokevirtual 107, 3) ∧ tVn (mO 173) 107 = some 0 ∧ tV (mO 173) 107 11 = some 171 := by decide +kernel
theorem k173_4 : decode (mB 173) 4 = .ok (.ifCond .eq 18, 3) := by decide +kernel
theorem k173_7 : decode (mB 173) 7 = .ok (.aload_n 0, 1) := by decide +kernel
theorem k173_8 : decode (mB 173) 8 = .ok (.getfield 101, 3) ∧ tF (mO 173) 101 = some (11, 11, 0, 0) := by decide +kernel
theorem k173_11 : decode (mB 173) 11 = .ok (.iconst 2, 1) := by decide +kernel
theorem k173_12 : decode (mB 173) 12 = .ok (.if_icmp .eq 10, 3) := by decide +kernel
theorem k173_15 : decode (mB 173) 15 = .ok (.aload_n 0, 1) := by decide +kernel
theorem k173_16 : decode (mB 173) 16 = .ok (.iconst 0, 1) := by decide +kernel
theorem k173_17 : decode (mB 173) 17 = .ok (.iconst 1, 1) := by decide +kernel
theorem k173_18 : decode (mB 173) 18 = .ok (.invokevirtual 117, 3) ∧ tVn (mO 173) 117 = some 2 ∧ tV (mO 173) 117 11 = some 172 := by decide +kernel
theorem k173_21 : decode (mB 173) 21 = .ok (.ireturn, 1) ∧ mR 173 = (some .int) := by decide +kernel
theorem k173_22 : decode (mB 173) 22 = .ok (.aload_n 0, 1) := by decide +kernel
theorem k173_23 : decode (mB 173) 23 = .ok (.aload_n 0, 1) := by decide +kernel
theorem k173_24 : decode (mB 173) 24 = .ok (.getfield 98, 3) ∧ tF (mO 173) 98 = some (11, 12, 0, 0) := by decide +kernel
theorem k173_27 : decode (mB 173) 27 = .ok (.iload_n 1, 1) := by decide +kernel
theorem k173_28 : decode (mB 173) 28 = .ok (.iload_n 2, 1) := by decide +kernel
theorem k173_29 : decode (mB 173) 29 = .ok (.invokestatic 59, 3) ∧ tM (mO 173) 59 = none ∧ tS (mO 173) 59 = some 155 := by decide +kernel
theorem k173_32 : decode (mB 173) 32 = .ok (.iconst 2, 1) := by decide +kernel
theorem k173_33 : decode (mB 173) 33 = .ok (.invokevirtual 117, 3) ∧ tVn (mO 173) 117 = some 2 ∧ tV (mO 173) 117 11 = some 172 := by decide +kernel
theorem k173_36 : decode (mB 173) 36 = .ok (.ireturn, 1) ∧ mR 173 = (some .int) := by decide +kernel
-- 174: ChairPastModel.kindOf:(I)I, locals 1
theorem l174 : mL 174 = 1 := by decide +kernel
theorem k174_0 : decode (mB 174) 0 = .ok (.iload_n 0, 1) := by decide +kernel
theorem k174_1 : decode (mB 174) 1 = .ok (.bipush 112, 2) := by decide +kernel
theorem k174_3 : decode (mB 174) 3 = .ok (.if_icmp .ne 7, 3) := by decide +kernel
theorem k174_6 : decode (mB 174) 6 = .ok (.iconst 1, 1) := by decide +kernel
theorem k174_7 : decode (mB 174) 7 = .ok (.goto 44, 3) := by decide +kernel
theorem k174_10 : decode (mB 174) 10 = .ok (.iload_n 0, 1) := by decide +kernel
theorem k174_11 : decode (mB 174) 11 = .ok (.bipush 114, 2) := by decide +kernel
theorem k174_13 : decode (mB 174) 13 = .ok (.if_icmp .ne 7, 3) := by decide +kernel
theorem k174_16 : decode (mB 174) 16 = .ok (.iconst 2, 1) := by decide +kernel
theorem k174_17 : decode (mB 174) 17 = .ok (.goto 34, 3) := by decide +kernel
theorem k174_20 : decode (mB 174) 20 = .ok (.iload_n 0, 1) := by decide +kernel
theorem k174_21 : decode (mB 174) 21 = .ok (.bipush 98, 2) := by decide +kernel
theorem k174_23 : decode (mB 174) 23 = .ok (.if_icmp .ne 7, 3) := by decide +kernel
theorem k174_26 : decode (mB 174) 26 = .ok (.iconst 3, 1) := by decide +kernel
theorem k174_27 : decode (mB 174) 27 = .ok (.goto 24, 3) := by decide +kernel
theorem k174_30 : decode (mB 174) 30 = .ok (.iload_n 0, 1) := by decide +kernel
theorem k174_31 : decode (mB 174) 31 = .ok (.bipush 116, 2) := by decide +kernel
theorem k174_33 : decode (mB 174) 33 = .ok (.if_icmp .ne 7, 3) := by decide +kernel
theorem k174_36 : decode (mB 174) 36 = .ok (.iconst 4, 1) := by decide +kernel
theorem k174_37 : decode (mB 174) 37 = .ok (.goto 14, 3) := by decide +kernel
theorem k174_40 : decode (mB 174) 40 = .ok (.iload_n 0, 1) := by decide +kernel
theorem k174_41 : decode (mB 174) 41 = .ok (.bipush 100, 2) := by decide +kernel
theorem k174_43 : decode (mB 174) 43 = .ok (.if_icmp .ne 7, 3) := by decide +kernel
theorem k174_46 : decode (mB 174) 46 = .ok (.iconst 5, 1) := by decide +kernel
theorem k174_47 : decode (mB 174) 47 = .ok (.goto 4, 3) := by decide +kernel
theorem k174_50 : decode (mB 174) 50 = .ok (.iconst 0, 1) := by decide +kernel
theorem k174_51 : decode (mB 174) 51 = .ok (.ireturn, 1) ∧ mR 174 = (some .int) := by decide +kernel
-- 175: ChairPastModel.follows:(II)I, locals 3
theorem l175 : mL 175 = 3 := by decide +kernel
theorem k175_0 : decode (mB 175) 0 = .ok (.aload_n 0, 1) := by decide +kernel
theorem k175_1 : decode (mB 175) 1 = .ok (.aload_n 0, 1) := by decide +kernel
theorem k175_2 : decode (mB 175) 2 = .ok (.getfield 101, 3) ∧ tF (mO 175) 101 = some (11, 11, 0, 0) := by decide +kernel
theorem k175_5 : decode (mB 175) 5 = .ok (.iconst 3, 1) := by decide +kernel
theorem k175_6 : decode (mB 175) 6 = .ok (.if_icmp .ne 7, 3) := by decide +kernel
theorem k175_9 : decode (mB 175) 9 = .ok (.iconst 1, 1) := by decide +kernel
theorem k175_10 : decode (mB 175) 10 = .ok (.goto 4, 3) := by decide +kernel
theorem k175_13 : decode (mB 175) 13 = .ok (.iconst 0, 1) := by decide +kernel
theorem k175_14 : decode (mB 175) 14 = .ok (.iconst 1, 1) := by decide +kernel
theorem k175_15 : decode (mB 175) 15 = .ok (.invokevirtual 117, 3) ∧ tVn (mO 175) 117 = some 2 ∧ tV (mO 175) 117 11 = some 172 := by decide +kernel
theorem k175_18 : decode (mB 175) 18 = .ok (.pop, 1) := by decide +kernel
theorem k175_19 : decode (mB 175) 19 = .ok (.aload_n 0, 1) := by decide +kernel
theorem k175_20 : decode (mB 175) 20 = .ok (.iload_n 1, 1) := by decide +kernel
theorem k175_21 : decode (mB 175) 21 = .ok (.iload_n 2, 1) := by decide +kernel
theorem k175_22 : decode (mB 175) 22 = .ok (.invokevirtual 121, 3) ∧ tVn (mO 175) 121 = some 2 ∧ tV (mO 175) 121 11 = some 173 := by decide +kernel
theorem k175_25 : decode (mB 175) 25 = .ok (.ireturn, 1) ∧ mR 175 = (some .int) := by decide +kernel
-- 176: ChairPastModel.readsChair:()V, locals 6
theorem l176 : mL 176 = 6 := by decide +kernel
theorem k176_0 : decode (mB 176) 0 = .ok (.aload_n 0, 1) := by decide +kernel
theorem k176_1 : decode (mB 176) 1 = .ok (.getfield 98, 3) ∧ tF (mO 176) 98 = some (11, 12, 0, 0) := by decide +kernel
theorem k176_4 : decode (mB 176) 4 = .ok (.invokestatic 124, 3) ∧ tM (mO 176) 124 = none ∧ tS (mO 176) 124 = some 174 := by decide +kernel
theorem k176_7 : decode (mB 176) 7 = .ok (.istore_n 1, 1) := by decide +kernel
theorem k176_8 : decode (mB 176) 8 = .ok (.aload_n 0, 1) := by decide +kernel
theorem k176_9 : decode (mB 176) 9 = .ok (.aload_n 0, 1) := by decide +kernel
theorem k176_10 : decode (mB 176) 10 = .ok (.getfield 28, 3) ∧ tF (mO 176) 28 = some (11, 14, 1, 1) := by decide +kernel
theorem k176_13 : decode (mB 176) 13 = .ok (.iconst 1, 1) := by decide +kernel
theorem k176_14 : decode (mB 176) 14 = .ok (.iaload, 1) := by decide +kernel
theorem k176_15 : decode (mB 176) 15 = .ok (.iconst 5, 1) := by decide +kernel
theorem k176_16 : decode (mB 176) 16 = .ok (.if_icmp .ge 7, 3) := by decide +kernel
theorem k176_19 : decode (mB 176) 19 = .ok (.iconst 1, 1) := by decide +kernel
theorem k176_20 : decode (mB 176) 20 = .ok (.goto 4, 3) := by decide +kernel
theorem k176_23 : decode (mB 176) 23 = .ok (.iconst 0, 1) := by decide +kernel
theorem k176_24 : decode (mB 176) 24 = .ok (.iconst 3, 1) := by decide +kernel
theorem k176_25 : decode (mB 176) 25 = .ok (.invokevirtual 117, 3) ∧ tVn (mO 176) 117 = some 2 ∧ tV (mO 176) 117 11 = some 172 := by decide +kernel
theorem k176_28 : decode (mB 176) 28 = .ok (.pop, 1) := by decide +kernel
theorem k176_29 : decode (mB 176) 29 = .ok (.iconst 3, 1) := by decide +kernel
theorem k176_30 : decode (mB 176) 30 = .ok (.iconst 5, 1) := by decide +kernel
theorem k176_31 : decode (mB 176) 31 = .ok (.aload_n 0, 1) := by decide +kernel
theorem k176_32 : decode (mB 176) 32 = .ok (.getfield 28, 3) ∧ tF (mO 176) 28 = some (11, 14, 1, 1) := by decide +kernel
theorem k176_35 : decode (mB 176) 35 = .ok (.iconst 1, 1) := by decide +kernel
theorem k176_36 : decode (mB 176) 36 = .ok (.iaload, 1) := by decide +kernel
theorem k176_37 : decode (mB 176) 37 = .ok (.iconst 5, 1) := by decide +kernel
theorem k176_38 : decode (mB 176) 38 = .ok (.if_icmp .ge 12, 3) := by decide +kernel
theorem k176_41 : decode (mB 176) 41 = .ok (.aload_n 0, 1) := by decide +kernel
theorem k176_42 : decode (mB 176) 42 = .ok (.getfield 28, 3) ∧ tF (mO 176) 28 = some (11, 14, 1, 1) := by decide +kernel
theorem k176_45 : decode (mB 176) 45 = .ok (.iconst 1, 1) := by decide +kernel
theorem k176_46 : decode (mB 176) 46 = .ok (.iaload, 1) := by decide +kernel
theorem k176_47 : decode (mB 176) 47 = .ok (.goto 4, 3) := by decide +kernel
theorem k176_50 : decode (mB 176) 50 = .ok (.iconst 0, 1) := by decide +kernel
theorem k176_51 : decode (mB 176) 51 = .ok (.imul, 1) := by decide +kernel
theorem k176_52 : decode (mB 176) 52 = .ok (.iadd, 1) := by decide +kernel
theorem k176_53 : decode (mB 176) 53 = .ok (.istore_n 2, 1) := by decide +kernel
theorem k176_54 : decode (mB 176) 54 = .ok (.aload_n 0, 1) := by decide +kernel
theorem k176_55 : decode (mB 176) 55 = .ok (.iconst 0, 1) := by decide +kernel
theorem k176_56 : decode (mB 176) 56 = .ok (.bipush 9, 2) := by decide +kernel
theorem k176_58 : decode (mB 176) 58 = .ok (.invokevirtual 121, 3) ∧ tVn (mO 176) 121 = some 2 ∧ tV (mO 176) 121 11 = some 173 := by decide +kernel
theorem k176_61 : decode (mB 176) 61 = .ok (.istore_n 3, 1) := by decide +kernel
theorem k176_62 : decode (mB 176) 62 = .ok (.aload_n 0, 1) := by decide +kernel
theorem k176_63 : decode (mB 176) 63 = .ok (.iconst 0, 1) := by decide +kernel
theorem k176_64 : decode (mB 176) 64 = .ok (.bipush 16, 2) := by decide +kernel
theorem k176_66 : decode (mB 176) 66 = .ok (.invokevirtual 127, 3) ∧ tVn (mO 176) 127 = some 2 ∧ tV (mO 176) 127 11 = some 175 := by decide +kernel
theorem k176_69 : decode (mB 176) 69 = .ok (.istore 4, 2) := by decide +kernel
theorem k176_71 : decode (mB 176) 71 = .ok (.aload_n 0, 1) := by decide +kernel
theorem k176_72 : decode (mB 176) 72 = .ok (.iconst 0, 1) := by decide +kernel
theorem k176_73 : decode (mB 176) 73 = .ok (.iconst 3, 1) := by decide +kernel
theorem k176_74 : decode (mB 176) 74 = .ok (.invokevirtual 127, 3) ∧ tVn (mO 176) 127 = some 2 ∧ tV (mO 176) 127 11 = some 175 := by decide +kernel
theorem k176_77 : decode (mB 176) 77 = .ok (.istore 5, 2) := by decide +kernel
theorem k176_79 : decode (mB 176) 79 = .ok (.aload_n 0, 1) := by decide +kernel
theorem k176_80 : decode (mB 176) 80 = .ok (.aload_n 0, 1) := by decide +kernel
theorem k176_81 : decode (mB 176) 81 = .ok (.getfield 101, 3) ∧ tF (mO 176) 101 = some (11, 11, 0, 0) := by decide +kernel
theorem k176_84 : decode (mB 176) 84 = .ok (.iconst 4, 1) := by decide +kernel
theorem k176_85 : decode (mB 176) 85 = .ok (.if_icmp .ne 7, 3) := by decide +kernel
theorem k176_88 : decode (mB 176) 88 = .ok (.iconst 1, 1) := by decide +kernel
theorem k176_89 : decode (mB 176) 89 = .ok (.goto 4, 3) := by decide +kernel
theorem k176_92 : decode (mB 176) 92 = .ok (.iconst 0, 1) := by decide +kernel
theorem k176_93 : decode (mB 176) 93 = .ok (.iconst 1, 1) := by decide +kernel
theorem k176_94 : decode (mB 176) 94 = .ok (.invokevirtual 117, 3) ∧ tVn (mO 176) 117 = some 2 ∧ tV (mO 176) 117 11 = some 172 := by decide +kernel
theorem k176_97 : decode (mB 176) 97 = .ok (.pop, 1) := by decide +kernel
theorem k176_98 : decode (mB 176) 98 = .ok (.aload_n 0, 1) := by decide +kernel
theorem k176_99 : decode (mB 176) 99 = .ok (.invokevirtual 107, 3) ∧ tVn (mO 176) 107 = some 0 ∧ tV (mO 176) 107 11 = some 171 := by decide +kernel
theorem k176_102 : decode (mB 176) 102 = .ok (.ifCond .eq 49, 3) := by decide +kernel
theorem k176_105 : decode (mB 176) 105 = .ok (.aload_n 0, 1) := by decide +kernel
theorem k176_106 : decode (mB 176) 106 = .ok (.getfield 28, 3) ∧ tF (mO 176) 28 = some (11, 14, 1, 1) := by decide +kernel
theorem k176_109 : decode (mB 176) 109 = .ok (.iload_n 2, 1) := by decide +kernel
theorem k176_110 : decode (mB 176) 110 = .ok (.iload_n 1, 1) := by decide +kernel
theorem k176_111 : decode (mB 176) 111 = .ok (.iastore, 1) := by decide +kernel
theorem k176_112 : decode (mB 176) 112 = .ok (.aload_n 0, 1) := by decide +kernel
theorem k176_113 : decode (mB 176) 113 = .ok (.getfield 28, 3) ∧ tF (mO 176) 28 = some (11, 14, 1, 1) := by decide +kernel
theorem k176_116 : decode (mB 176) 116 = .ok (.iload_n 2, 1) := by decide +kernel
theorem k176_117 : decode (mB 176) 117 = .ok (.iconst 1, 1) := by decide +kernel
theorem k176_118 : decode (mB 176) 118 = .ok (.iadd, 1) := by decide +kernel
theorem k176_119 : decode (mB 176) 119 = .ok (.iload_n 3, 1) := by decide +kernel
theorem k176_120 : decode (mB 176) 120 = .ok (.iastore, 1) := by decide +kernel
theorem k176_121 : decode (mB 176) 121 = .ok (.aload_n 0, 1) := by decide +kernel
theorem k176_122 : decode (mB 176) 122 = .ok (.getfield 28, 3) ∧ tF (mO 176) 28 = some (11, 14, 1, 1) := by decide +kernel
theorem k176_125 : decode (mB 176) 125 = .ok (.iload_n 2, 1) := by decide +kernel
theorem k176_126 : decode (mB 176) 126 = .ok (.iconst 2, 1) := by decide +kernel
theorem k176_127 : decode (mB 176) 127 = .ok (.iadd, 1) := by decide +kernel
theorem k176_128 : decode (mB 176) 128 = .ok (.iload 4, 2) := by decide +kernel
theorem k176_130 : decode (mB 176) 130 = .ok (.iastore, 1) := by decide +kernel
theorem k176_131 : decode (mB 176) 131 = .ok (.aload_n 0, 1) := by decide +kernel
theorem k176_132 : decode (mB 176) 132 = .ok (.getfield 28, 3) ∧ tF (mO 176) 28 = some (11, 14, 1, 1) := by decide +kernel
theorem k176_135 : decode (mB 176) 135 = .ok (.iload_n 2, 1) := by decide +kernel
theorem k176_136 : decode (mB 176) 136 = .ok (.iconst 3, 1) := by decide +kernel
theorem k176_137 : decode (mB 176) 137 = .ok (.iadd, 1) := by decide +kernel
theorem k176_138 : decode (mB 176) 138 = .ok (.iload 5, 2) := by decide +kernel
theorem k176_140 : decode (mB 176) 140 = .ok (.iastore, 1) := by decide +kernel
theorem k176_141 : decode (mB 176) 141 = .ok (.aload_n 0, 1) := by decide +kernel
theorem k176_142 : decode (mB 176) 142 = .ok (.getfield 28, 3) ∧ tF (mO 176) 28 = some (11, 14, 1, 1) := by decide +kernel
theorem k176_145 : decode (mB 176) 145 = .ok (.iconst 1, 1) := by decide +kernel
theorem k176_146 : decode (mB 176) 146 = .ok (.dup2, 1) := by decide +kernel
theorem k176_147 : decode (mB 176) 147 = .ok (.iaload, 1) := by decide +kernel
theorem k176_148 : decode (mB 176) 148 = .ok (.iconst 1, 1) := by decide +kernel
theorem k176_149 : decode (mB 176) 149 = .ok (.iadd, 1) := by decide +kernel
theorem k176_150 : decode (mB 176) 150 = .ok (.iastore, 1) := by decide +kernel
theorem k176_151 : decode (mB 176) 151 = .ok (.return_, 1) ∧ mR 176 = none := by decide +kernel
-- 177: ChairPastModel.readsGuest:()V, locals 4
theorem l177 : mL 177 = 4 := by decide +kernel
theorem k177_0 : decode (mB 177) 0 = .ok (.aload_n 0, 1) := by decide +kernel
theorem k177_1 : decode (mB 177) 1 = .ok (.aload_n 0, 1) := by decide +kernel
theorem k177_2 : decode (mB 177) 2 = .ok (.getfield 28, 3) ∧ tF (mO 177) 28 = some (11, 14, 1, 1) := by decide +kernel
theorem k177_5 : decode (mB 177) 5 = .ok (.iconst 2, 1) := by decide +kernel
theorem k177_6 : decode (mB 177) 6 = .ok (.iaload, 1) := by decide +kernel
theorem k177_7 : decode (mB 177) 7 = .ok (.iconst 5, 1) := by decide +kernel
theorem k177_8 : decode (mB 177) 8 = .ok (.if_icmp .ge 7, 3) := by decide +kernel
theorem k177_11 : decode (mB 177) 11 = .ok (.iconst 1, 1) := by decide +kernel
theorem k177_12 : decode (mB 177) 12 = .ok (.goto 4, 3) := by decide +kernel
theorem k177_15 : decode (mB 177) 15 = .ok (.iconst 0, 1) := by decide +kernel
theorem k177_16 : decode (mB 177) 16 = .ok (.iconst 3, 1) := by decide +kernel
theorem k177_17 : decode (mB 177) 17 = .ok (.invokevirtual 117, 3) ∧ tVn (mO 177) 117 = some 2 ∧ tV (mO 177) 117 11 = some 172 := by decide +kernel
theorem k177_20 : decode (mB 177) 20 = .ok (.pop, 1) := by decide +kernel
theorem k177_21 : decode (mB 177) 21 = .ok (.bipush 28, 2) := by decide +kernel
theorem k177_23 : decode (mB 177) 23 = .ok (.iconst 4, 1) := by decide +kernel
theorem k177_24 : decode (mB 177) 24 = .ok (.aload_n 0, 1) := by decide +kernel
theorem k177_25 : decode (mB 177) 25 = .ok (.getfield 28, 3) ∧ tF (mO 177) 28 = some (11, 14, 1, 1) := by decide +kernel
theorem k177_28 : decode (mB 177) 28 = .ok (.iconst 2, 1) := by decide +kernel
theorem k177_29 : decode (mB 177) 29 = .ok (.iaload, 1) := by decide +kernel
theorem k177_30 : decode (mB 177) 30 = .ok (.iconst 5, 1) := by decide +kernel
theorem k177_31 : decode (mB 177) 31 = .ok (.if_icmp .ge 12, 3) := by decide +kernel
theorem k177_34 : decode (mB 177) 34 = .ok (.aload_n 0, 1) := by decide +kernel
theorem k177_35 : decode (mB 177) 35 = .ok (.getfield 28, 3) ∧ tF (mO 177) 28 = some (11, 14, 1, 1) := by decide +kernel
theorem k177_38 : decode (mB 177) 38 = .ok (.iconst 2, 1) := by decide +kernel
theorem k177_39 : decode (mB 177) 39 = .ok (.iaload, 1) := by decide +kernel
theorem k177_40 : decode (mB 177) 40 = .ok (.goto 4, 3) := by decide +kernel
theorem k177_43 : decode (mB 177) 43 = .ok (.iconst 0, 1) := by decide +kernel
theorem k177_44 : decode (mB 177) 44 = .ok (.imul, 1) := by decide +kernel
theorem k177_45 : decode (mB 177) 45 = .ok (.iadd, 1) := by decide +kernel
theorem k177_46 : decode (mB 177) 46 = .ok (.istore_n 1, 1) := by decide +kernel
theorem k177_47 : decode (mB 177) 47 = .ok (.aload_n 0, 1) := by decide +kernel
theorem k177_48 : decode (mB 177) 48 = .ok (.iconst 0, 1) := by decide +kernel
theorem k177_49 : decode (mB 177) 49 = .ok (.bipush 9, 2) := by decide +kernel
theorem k177_51 : decode (mB 177) 51 = .ok (.invokevirtual 121, 3) ∧ tVn (mO 177) 121 = some 2 ∧ tV (mO 177) 121 11 = some 173 := by decide +kernel
theorem k177_54 : decode (mB 177) 54 = .ok (.istore_n 2, 1) := by decide +kernel
theorem k177_55 : decode (mB 177) 55 = .ok (.aload_n 0, 1) := by decide +kernel
theorem k177_56 : decode (mB 177) 56 = .ok (.iconst 1, 1) := by decide +kernel
theorem k177_57 : decode (mB 177) 57 = .ok (.bipush 9, 2) := by decide +kernel
theorem k177_59 : decode (mB 177) 59 = .ok (.invokevirtual 127, 3) ∧ tVn (mO 177) 127 = some 2 ∧ tV (mO 177) 127 11 = some 175 := by decide +kernel
theorem k177_62 : decode (mB 177) 62 = .ok (.istore_n 3, 1) := by decide +kernel
theorem k177_63 : decode (mB 177) 63 = .ok (.aload_n 0, 1) := by decide +kernel
theorem k177_64 : decode (mB 177) 64 = .ok (.aload_n 0, 1) := by decide +kernel
theorem k177_65 : decode (mB 177) 65 = .ok (.getfield 101, 3) ∧ tF (mO 177) 101 = some (11, 11, 0, 0) := by decide +kernel
theorem k177_68 : decode (mB 177) 68 = .ok (.iconst 4, 1) := by decide +kernel
theorem k177_69 : decode (mB 177) 69 = .ok (.if_icmp .ne 7, 3) := by decide +kernel
theorem k177_72 : decode (mB 177) 72 = .ok (.iconst 1, 1) := by decide +kernel
theorem k177_73 : decode (mB 177) 73 = .ok (.goto 4, 3) := by decide +kernel
theorem k177_76 : decode (mB 177) 76 = .ok (.iconst 0, 1) := by decide +kernel
theorem k177_77 : decode (mB 177) 77 = .ok (.iconst 1, 1) := by decide +kernel
theorem k177_78 : decode (mB 177) 78 = .ok (.invokevirtual 117, 3) ∧ tVn (mO 177) 117 = some 2 ∧ tV (mO 177) 117 11 = some 172 := by decide +kernel
theorem k177_81 : decode (mB 177) 81 = .ok (.pop, 1) := by decide +kernel
theorem k177_82 : decode (mB 177) 82 = .ok (.aload_n 0, 1) := by decide +kernel
theorem k177_83 : decode (mB 177) 83 = .ok (.invokevirtual 107, 3) ∧ tVn (mO 177) 107 = some 0 ∧ tV (mO 177) 107 11 = some 171 := by decide +kernel
theorem k177_86 : decode (mB 177) 86 = .ok (.ifCond .eq 29, 3) := by decide +kernel
theorem k177_89 : decode (mB 177) 89 = .ok (.aload_n 0, 1) := by decide +kernel
theorem k177_90 : decode (mB 177) 90 = .ok (.getfield 28, 3) ∧ tF (mO 177) 28 = some (11, 14, 1, 1) := by decide +kernel
theorem k177_93 : decode (mB 177) 93 = .ok (.iload_n 1, 1) := by decide +kernel
theorem k177_94 : decode (mB 177) 94 = .ok (.iload_n 2, 1) := by decide +kernel
theorem k177_95 : decode (mB 177) 95 = .ok (.iastore, 1) := by decide +kernel
theorem k177_96 : decode (mB 177) 96 = .ok (.aload_n 0, 1) := by decide +kernel
theorem k177_97 : decode (mB 177) 97 = .ok (.getfield 28, 3) ∧ tF (mO 177) 28 = some (11, 14, 1, 1) := by decide +kernel
theorem k177_100 : decode (mB 177) 100 = .ok (.iload_n 1, 1) := by decide +kernel
theorem k177_101 : decode (mB 177) 101 = .ok (.iconst 1, 1) := by decide +kernel
theorem k177_102 : decode (mB 177) 102 = .ok (.iadd, 1) := by decide +kernel
theorem k177_103 : decode (mB 177) 103 = .ok (.iload_n 3, 1) := by decide +kernel
theorem k177_104 : decode (mB 177) 104 = .ok (.iastore, 1) := by decide +kernel
theorem k177_105 : decode (mB 177) 105 = .ok (.aload_n 0, 1) := by decide +kernel
theorem k177_106 : decode (mB 177) 106 = .ok (.getfield 28, 3) ∧ tF (mO 177) 28 = some (11, 14, 1, 1) := by decide +kernel
theorem k177_109 : decode (mB 177) 109 = .ok (.iconst 2, 1) := by decide +kernel
theorem k177_110 : decode (mB 177) 110 = .ok (.dup2, 1) := by decide +kernel
theorem k177_111 : decode (mB 177) 111 = .ok (.iaload, 1) := by decide +kernel
theorem k177_112 : decode (mB 177) 112 = .ok (.iconst 1, 1) := by decide +kernel
theorem k177_113 : decode (mB 177) 113 = .ok (.iadd, 1) := by decide +kernel
theorem k177_114 : decode (mB 177) 114 = .ok (.iastore, 1) := by decide +kernel
theorem k177_115 : decode (mB 177) 115 = .ok (.return_, 1) ∧ mR 177 = none := by decide +kernel
-- 178: ChairPastModel.must:(Z)V, locals 2
theorem l178 : mL 178 = 2 := by decide +kernel
theorem k178_0 : decode (mB 178) 0 = .ok (.aload_n 0, 1) := by decide +kernel
theorem k178_1 : decode (mB 178) 1 = .ok (.invokevirtual 107, 3) ∧ tVn (mO 178) 107 = some 0 ∧ tV (mO 178) 107 11 = some 171 := by decide +kernel
theorem k178_4 : decode (mB 178) 4 = .ok (.ifCond .eq 14, 3) := by decide +kernel
theorem k178_7 : decode (mB 178) 7 = .ok (.iload_n 1, 1) := by decide +kernel
theorem k178_8 : decode (mB 178) 8 = .ok (.ifCond .ne 10, 3) := by decide +kernel
theorem k178_11 : decode (mB 178) 11 = .ok (.aload_n 0, 1) := by decide +kernel
theorem k178_12 : decode (mB 178) 12 = .ok (.iconst 0, 1) := by decide +kernel
theorem k178_13 : decode (mB 178) 13 = .ok (.iconst 1, 1) := by decide +kernel
theorem k178_14 : decode (mB 178) 14 = .ok (.invokevirtual 117, 3) ∧ tVn (mO 178) 117 = some 2 ∧ tV (mO 178) 117 11 = some 172 := by decide +kernel
theorem k178_17 : decode (mB 178) 17 = .ok (.pop, 1) := by decide +kernel
theorem k178_18 : decode (mB 178) 18 = .ok (.return_, 1) ∧ mR 178 = none := by decide +kernel
-- 179: ChairPastModel.room:()I, locals 2
theorem l179 : mL 179 = 2 := by decide +kernel
theorem k179_0 : decode (mB 179) 0 = .ok (.iconst 0, 1) := by decide +kernel
theorem k179_1 : decode (mB 179) 1 = .ok (.istore_n 1, 1) := by decide +kernel
theorem k179_2 : decode (mB 179) 2 = .ok (.iload_n 1, 1) := by decide +kernel
theorem k179_3 : decode (mB 179) 3 = .ok (.bipush 48, 2) := by decide +kernel
theorem k179_5 : decode (mB 179) 5 = .ok (.if_icmp .ge 16, 3) := by decide +kernel
theorem k179_8 : decode (mB 179) 8 = .ok (.aload_n 0, 1) := by decide +kernel
theorem k179_9 : decode (mB 179) 9 = .ok (.getfield 28, 3) ∧ tF (mO 179) 28 = some (11, 14, 1, 1) := by decide +kernel
theorem k179_12 : decode (mB 179) 12 = .ok (.iload_n 1, 1) := by decide +kernel
theorem k179_13 : decode (mB 179) 13 = .ok (.iconst 0, 1) := by decide +kernel
theorem k179_14 : decode (mB 179) 14 = .ok (.iastore, 1) := by decide +kernel
theorem k179_15 : decode (mB 179) 15 = .ok (.iinc 1 1, 3) := by decide +kernel
theorem k179_18 : decode (mB 179) 18 = .ok (.goto (-16), 3) := by decide +kernel
theorem k179_21 : decode (mB 179) 21 = .ok (.aload_n 0, 1) := by decide +kernel
theorem k179_22 : decode (mB 179) 22 = .ok (.iconst 0, 1) := by decide +kernel
theorem k179_23 : decode (mB 179) 23 = .ok (.putfield 89, 3) ∧ tF (mO 179) 89 = some (11, 9, 0, 0) := by decide +kernel
theorem k179_26 : decode (mB 179) 26 = .ok (.aload_n 0, 1) := by decide +kernel
theorem k179_27 : decode (mB 179) 27 = .ok (.iconst (-1), 1) := by decide +kernel
theorem k179_28 : decode (mB 179) 28 = .ok (.putfield 104, 3) ∧ tF (mO 179) 104 = some (11, 8, 0, 0) := by decide +kernel
theorem k179_31 : decode (mB 179) 31 = .ok (.aload_n 0, 1) := by decide +kernel
theorem k179_32 : decode (mB 179) 32 = .ok (.invokevirtual 114, 3) ∧ tVn (mO 179) 114 = some 0 ∧ tV (mO 179) 114 11 = some 170 := by decide +kernel
theorem k179_35 : decode (mB 179) 35 = .ok (.aload_n 0, 1) := by decide +kernel
theorem k179_36 : decode (mB 179) 36 = .ok (.aload_n 0, 1) := by decide +kernel
theorem k179_37 : decode (mB 179) 37 = .ok (.getfield 101, 3) ∧ tF (mO 179) 101 = some (11, 11, 0, 0) := by decide +kernel
theorem k179_40 : decode (mB 179) 40 = .ok (.iconst 1, 1) := by decide +kernel
theorem k179_41 : decode (mB 179) 41 = .ok (.if_icmp .ne 16, 3) := by decide +kernel
theorem k179_44 : decode (mB 179) 44 = .ok (.aload_n 0, 1) := by decide +kernel
theorem k179_45 : decode (mB 179) 45 = .ok (.getfield 98, 3) ∧ tF (mO 179) 98 = some (11, 12, 0, 0) := by decide +kernel
theorem k179_48 : decode (mB 179) 48 = .ok (.bipush 97, 2) := by decide +kernel
theorem k179_50 : decode (mB 179) 50 = .ok (.if_icmp .ne 7, 3) := by decide +kernel
theorem k179_53 : decode (mB 179) 53 = .ok (.iconst 1, 1) := by decide +kernel
theorem k179_54 : decode (mB 179) 54 = .ok (.goto 4, 3) := by decide +kernel
theorem k179_57 : decode (mB 179) 57 = .ok (.iconst 0, 1) := by decide +kernel
theorem k179_58 : decode (mB 179) 58 = .ok (.iconst 1, 1) := by decide +kernel
theorem k179_59 : decode (mB 179) 59 = .ok (.invokevirtual 117, 3) ∧ tVn (mO 179) 117 = some 2 ∧ tV (mO 179) 117 11 = some 172 := by decide +kernel
theorem k179_62 : decode (mB 179) 62 = .ok (.pop, 1) := by decide +kernel
theorem k179_63 : decode (mB 179) 63 = .ok (.aload_n 0, 1) := by decide +kernel
theorem k179_64 : decode (mB 179) 64 = .ok (.getfield 28, 3) ∧ tF (mO 179) 28 = some (11, 14, 1, 1) := by decide +kernel
theorem k179_67 : decode (mB 179) 67 = .ok (.iconst 0, 1) := by decide +kernel
theorem k179_68 : decode (mB 179) 68 = .ok (.aload_n 0, 1) := by decide +kernel
theorem k179_69 : decode (mB 179) 69 = .ok (.iconst 0, 1) := by decide +kernel
theorem k179_70 : decode (mB 179) 70 = .ok (.bipush 9, 2) := by decide +kernel
theorem k179_72 : decode (mB 179) 72 = .ok (.invokevirtual 121, 3) ∧ tVn (mO 179) 121 = some 2 ∧ tV (mO 179) 121 11 = some 173 := by decide +kernel
theorem k179_75 : decode (mB 179) 75 = .ok (.iastore, 1) := by decide +kernel
theorem k179_76 : decode (mB 179) 76 = .ok (.aload_n 0, 1) := by decide +kernel
theorem k179_77 : decode (mB 179) 77 = .ok (.aload_n 0, 1) := by decide +kernel
theorem k179_78 : decode (mB 179) 78 = .ok (.getfield 101, 3) ∧ tF (mO 179) 101 = some (11, 11, 0, 0) := by decide +kernel
theorem k179_81 : decode (mB 179) 81 = .ok (.iconst 4, 1) := by decide +kernel
theorem k179_82 : decode (mB 179) 82 = .ok (.if_icmp .ne 7, 3) := by decide +kernel
theorem k179_85 : decode (mB 179) 85 = .ok (.iconst 1, 1) := by decide +kernel
theorem k179_86 : decode (mB 179) 86 = .ok (.goto 4, 3) := by decide +kernel
theorem k179_89 : decode (mB 179) 89 = .ok (.iconst 0, 1) := by decide +kernel
theorem k179_90 : decode (mB 179) 90 = .ok (.iconst 1, 1) := by decide +kernel
theorem k179_91 : decode (mB 179) 91 = .ok (.invokevirtual 117, 3) ∧ tVn (mO 179) 117 = some 2 ∧ tV (mO 179) 117 11 = some 172 := by decide +kernel
theorem k179_94 : decode (mB 179) 94 = .ok (.pop, 1) := by decide +kernel
theorem k179_95 : decode (mB 179) 95 = .ok (.aload_n 0, 1) := by decide +kernel
theorem k179_96 : decode (mB 179) 96 = .ok (.aload_n 0, 1) := by decide +kernel
theorem k179_97 : decode (mB 179) 97 = .ok (.getfield 101, 3) ∧ tF (mO 179) 101 = some (11, 11, 0, 0) := by decide +kernel
theorem k179_100 : decode (mB 179) 100 = .ok (.iconst 1, 1) := by decide +kernel
theorem k179_101 : decode (mB 179) 101 = .ok (.if_icmp .ne 17, 3) := by decide +kernel
theorem k179_104 : decode (mB 179) 104 = .ok (.aload_n 0, 1) := by decide +kernel
theorem k179_105 : decode (mB 179) 105 = .ok (.getfield 98, 3) ∧ tF (mO 179) 98 = some (11, 12, 0, 0) := by decide +kernel
theorem k179_108 : decode (mB 179) 108 = .ok (.invokestatic 124, 3) ∧ tM (mO 179) 124 = none ∧ tS (mO 179) 124 = some 174 := by decide +kernel
theorem k179_111 : decode (mB 179) 111 = .ok (.ifCond .le 7, 3) := by decide +kernel
theorem k179_114 : decode (mB 179) 114 = .ok (.iconst 1, 1) := by decide +kernel
theorem k179_115 : decode (mB 179) 115 = .ok (.goto 4, 3) := by decide +kernel
theorem k179_118 : decode (mB 179) 118 = .ok (.iconst 0, 1) := by decide +kernel
theorem k179_119 : decode (mB 179) 119 = .ok (.invokevirtual 130, 3) ∧ tVn (mO 179) 130 = some 1 ∧ tV (mO 179) 130 11 = some 178 := by decide +kernel
theorem k179_122 : decode (mB 179) 122 = .ok (.aload_n 0, 1) := by decide +kernel
theorem k179_123 : decode (mB 179) 123 = .ok (.invokevirtual 107, 3) ∧ tVn (mO 179) 107 = some 0 ∧ tV (mO 179) 107 11 = some 171 := by decide +kernel
theorem k179_126 : decode (mB 179) 126 = .ok (.ifCond .eq 28, 3) := by decide +kernel
theorem k179_129 : decode (mB 179) 129 = .ok (.aload_n 0, 1) := by decide +kernel
theorem k179_130 : decode (mB 179) 130 = .ok (.getfield 101, 3) ∧ tF (mO 179) 101 = some (11, 11, 0, 0) := by decide +kernel
theorem k179_133 : decode (mB 179) 133 = .ok (.iconst 1, 1) := by decide +kernel
theorem k179_134 : decode (mB 179) 134 = .ok (.if_icmp .ne 20, 3) := by decide +kernel
theorem k179_137 : decode (mB 179) 137 = .ok (.aload_n 0, 1) := by decide +kernel
theorem k179_138 : decode (mB 179) 138 = .ok (.getfield 98, 3) ∧ tF (mO 179) 98 = some (11, 12, 0, 0) := by decide +kernel
theorem k179_141 : decode (mB 179) 141 = .ok (.invokestatic 124, 3) ∧ tM (mO 179) 124 = none ∧ tS (mO 179) 124 = some 174 := by decide +kernel
theorem k179_144 : decode (mB 179) 144 = .ok (.ifCond .le 10, 3) := by decide +kernel
theorem k179_147 : decode (mB 179) 147 = .ok (.aload_n 0, 1) := by decide +kernel
theorem k179_148 : decode (mB 179) 148 = .ok (.invokevirtual 134, 3) ∧ tVn (mO 179) 134 = some 0 ∧ tV (mO 179) 134 11 = some 176 := by decide +kernel
theorem k179_151 : decode (mB 179) 151 = .ok (.goto (-29), 3) := by decide +kernel
theorem k179_154 : decode (mB 179) 154 = .ok (.aload_n 0, 1) := by decide +kernel
theorem k179_155 : decode (mB 179) 155 = .ok (.invokevirtual 107, 3) ∧ tVn (mO 179) 107 = some 0 ∧ tV (mO 179) 107 11 = some 171 := by decide +kernel
theorem k179_158 : decode (mB 179) 158 = .ok (.ifCond .eq 27, 3) := by decide +kernel
theorem k179_161 : decode (mB 179) 161 = .ok (.aload_n 0, 1) := by decide +kernel
theorem k179_162 : decode (mB 179) 162 = .ok (.getfield 101, 3) ∧ tF (mO 179) 101 = some (11, 11, 0, 0) := by decide +kernel
theorem k179_165 : decode (mB 179) 165 = .ok (.iconst 1, 1) := by decide +kernel
theorem k179_166 : decode (mB 179) 166 = .ok (.if_icmp .ne 19, 3) := by decide +kernel
theorem k179_169 : decode (mB 179) 169 = .ok (.aload_n 0, 1) := by decide +kernel
theorem k179_170 : decode (mB 179) 170 = .ok (.getfield 98, 3) ∧ tF (mO 179) 98 = some (11, 12, 0, 0) := by decide +kernel
theorem k179_173 : decode (mB 179) 173 = .ok (.bipush 122, 2) := by decide +kernel
theorem k179_175 : decode (mB 179) 175 = .ok (.if_icmp .ne 10, 3) := by decide +kernel
theorem k179_178 : decode (mB 179) 178 = .ok (.aload_n 0, 1) := by decide +kernel
theorem k179_179 : decode (mB 179) 179 = .ok (.invokevirtual 137, 3) ∧ tVn (mO 179) 137 = some 0 ∧ tV (mO 179) 137 11 = some 177 := by decide +kernel
theorem k179_182 : decode (mB 179) 182 = .ok (.goto (-28), 3) := by decide +kernel
theorem k179_185 : decode (mB 179) 185 = .ok (.aload_n 0, 1) := by decide +kernel
theorem k179_186 : decode (mB 179) 186 = .ok (.aload_n 0, 1) := by decide +kernel
theorem k179_187 : decode (mB 179) 187 = .ok (.getfield 101, 3) ∧ tF (mO 179) 101 = some (11, 11, 0, 0) := by decide +kernel
theorem k179_190 : decode (mB 179) 190 = .ok (.ifCond .ne 7, 3) := by decide +kernel
theorem k179_193 : decode (mB 179) 193 = .ok (.iconst 1, 1) := by decide +kernel
theorem k179_194 : decode (mB 179) 194 = .ok (.goto 4, 3) := by decide +kernel
theorem k179_197 : decode (mB 179) 197 = .ok (.iconst 0, 1) := by decide +kernel
theorem k179_198 : decode (mB 179) 198 = .ok (.invokevirtual 130, 3) ∧ tVn (mO 179) 130 = some 1 ∧ tV (mO 179) 130 11 = some 178 := by decide +kernel
theorem k179_201 : decode (mB 179) 201 = .ok (.aload_n 0, 1) := by decide +kernel
theorem k179_202 : decode (mB 179) 202 = .ok (.iconst 0, 1) := by decide +kernel
theorem k179_203 : decode (mB 179) 203 = .ok (.putfield 85, 3) ∧ tF (mO 179) 85 = some (11, 6, 0, 0) := by decide +kernel
theorem k179_206 : decode (mB 179) 206 = .ok (.aload_n 0, 1) := by decide +kernel
theorem k179_207 : decode (mB 179) 207 = .ok (.invokevirtual 107, 3) ∧ tVn (mO 179) 107 = some 0 ∧ tV (mO 179) 107 11 = some 171 := by decide +kernel
theorem k179_210 : decode (mB 179) 210 = .ok (.ifCond .ne 11, 3) := by decide +kernel
theorem k179_213 : decode (mB 179) 213 = .ok (.ldc 140, 2) ∧ tK (mO 179) 140 = some (-1000100) := by decide +kernel
theorem k179_215 : decode (mB 179) 215 = .ok (.aload_n 0, 1) := by decide +kernel
theorem k179_216 : decode (mB 179) 216 = .ok (.getfield 104, 3) ∧ tF (mO 179) 104 = some (11, 8, 0, 0) := by decide +kernel
theorem k179_219 : decode (mB 179) 219 = .ok (.isub, 1) := by decide +kernel
theorem k179_220 : decode (mB 179) 220 = .ok (.ireturn, 1) ∧ mR 179 = (some .int) := by decide +kernel
theorem k179_221 : decode (mB 179) 221 = .ok (.aload_n 0, 1) := by decide +kernel
theorem k179_222 : decode (mB 179) 222 = .ok (.getfield 28, 3) ∧ tF (mO 179) 28 = some (11, 14, 1, 1) := by decide +kernel
theorem k179_225 : decode (mB 179) 225 = .ok (.iconst 0, 1) := by decide +kernel
theorem k179_226 : decode (mB 179) 226 = .ok (.aload_n 0, 1) := by decide +kernel
theorem k179_227 : decode (mB 179) 227 = .ok (.getfield 25, 3) ∧ tF (mO 179) 25 = some (11, 13, 1, 1) := by decide +kernel
theorem k179_230 : decode (mB 179) 230 = .ok (.iconst 0, 1) := by decide +kernel
theorem k179_231 : decode (mB 179) 231 = .ok (.invokestatic 141, 3) ∧ tM (mO 179) 141 = none ∧ tS (mO 179) 141 = some 159 := by decide +kernel
theorem k179_234 : decode (mB 179) 234 = .ok (.aload_n 0, 1) := by decide +kernel
theorem k179_235 : decode (mB 179) 235 = .ok (.iconst 0, 1) := by decide +kernel
theorem k179_236 : decode (mB 179) 236 = .ok (.putfield 145, 3) ∧ tF (mO 179) 145 = some (11, 17, 0, 0) := by decide +kernel
theorem k179_239 : decode (mB 179) 239 = .ok (.aload_n 0, 1) := by decide +kernel
theorem k179_240 : decode (mB 179) 240 = .ok (.getfield 25, 3) ∧ tF (mO 179) 25 = some (11, 13, 1, 1) := by decide +kernel
theorem k179_243 : decode (mB 179) 243 = .ok (.iconst 1, 1) := by decide +kernel
theorem k179_244 : decode (mB 179) 244 = .ok (.iaload, 1) := by decide +kernel
theorem k179_245 : decode (mB 179) 245 = .ok (.ireturn, 1) ∧ mR 179 = (some .int) := by decide +kernel
-- 180: ChairPastModel.fault:()I, locals 1
theorem l180 : mL 180 = 1 := by decide +kernel
theorem k180_0 : decode (mB 180) 0 = .ok (.aload_n 0, 1) := by decide +kernel
theorem k180_1 : decode (mB 180) 1 = .ok (.getfield 111, 3) ∧ tF (mO 180) 111 = some (11, 7, 0, 0) := by decide +kernel
theorem k180_4 : decode (mB 180) 4 = .ok (.ireturn, 1) ∧ mR 180 = (some .int) := by decide +kernel
-- 181: ChairPastModel.isRoom:()Z, locals 1
theorem l181 : mL 181 = 1 := by decide +kernel
theorem k181_0 : decode (mB 181) 0 = .ok (.aload_n 0, 1) := by decide +kernel
theorem k181_1 : decode (mB 181) 1 = .ok (.getfield 25, 3) ∧ tF (mO 181) 25 = some (11, 13, 1, 1) := by decide +kernel
theorem k181_4 : decode (mB 181) 4 = .ok (.iconst 1, 1) := by decide +kernel
theorem k181_5 : decode (mB 181) 5 = .ok (.iaload, 1) := by decide +kernel
theorem k181_6 : decode (mB 181) 6 = .ok (.ifCond .le 7, 3) := by decide +kernel
theorem k181_9 : decode (mB 181) 9 = .ok (.iconst 1, 1) := by decide +kernel
theorem k181_10 : decode (mB 181) 10 = .ok (.goto 4, 3) := by decide +kernel
theorem k181_13 : decode (mB 181) 13 = .ok (.iconst 0, 1) := by decide +kernel
theorem k181_14 : decode (mB 181) 14 = .ok (.ireturn, 1) ∧ mR 181 = (some .boolean) := by decide +kernel
-- 182: ChairPastModel.isChair:(I)Z, locals 2
theorem l182 : mL 182 = 2 := by decide +kernel
theorem k182_0 : decode (mB 182) 0 = .ok (.iload_n 1, 1) := by decide +kernel
theorem k182_1 : decode (mB 182) 1 = .ok (.iconst 0, 1) := by decide +kernel
theorem k182_2 : decode (mB 182) 2 = .ok (.aload_n 0, 1) := by decide +kernel
theorem k182_3 : decode (mB 182) 3 = .ok (.getfield 25, 3) ∧ tF (mO 182) 25 = some (11, 13, 1, 1) := by decide +kernel
theorem k182_6 : decode (mB 182) 6 = .ok (.iconst 1, 1) := by decide +kernel
theorem k182_7 : decode (mB 182) 7 = .ok (.iaload, 1) := by decide +kernel
theorem k182_8 : decode (mB 182) 8 = .ok (.iconst 1, 1) := by decide +kernel
theorem k182_9 : decode (mB 182) 9 = .ok (.isub, 1) := by decide +kernel
theorem k182_10 : decode (mB 182) 10 = .ok (.invokestatic 59, 3) ∧ tM (mO 182) 59 = none ∧ tS (mO 182) 59 = some 155 := by decide +kernel
theorem k182_13 : decode (mB 182) 13 = .ok (.ireturn, 1) ∧ mR 182 = (some .boolean) := by decide +kernel
-- 183: ChairPastModel.isGuest:(I)Z, locals 2
theorem l183 : mL 183 = 2 := by decide +kernel
theorem k183_0 : decode (mB 183) 0 = .ok (.iload_n 1, 1) := by decide +kernel
theorem k183_1 : decode (mB 183) 1 = .ok (.iconst 0, 1) := by decide +kernel
theorem k183_2 : decode (mB 183) 2 = .ok (.aload_n 0, 1) := by decide +kernel
theorem k183_3 : decode (mB 183) 3 = .ok (.getfield 25, 3) ∧ tF (mO 183) 25 = some (11, 13, 1, 1) := by decide +kernel
theorem k183_6 : decode (mB 183) 6 = .ok (.iconst 2, 1) := by decide +kernel
theorem k183_7 : decode (mB 183) 7 = .ok (.iaload, 1) := by decide +kernel
theorem k183_8 : decode (mB 183) 8 = .ok (.iconst 1, 1) := by decide +kernel
theorem k183_9 : decode (mB 183) 9 = .ok (.isub, 1) := by decide +kernel
theorem k183_10 : decode (mB 183) 10 = .ok (.invokestatic 59, 3) ∧ tM (mO 183) 59 = none ∧ tS (mO 183) 59 = some 155 := by decide +kernel
theorem k183_13 : decode (mB 183) 13 = .ok (.ireturn, 1) ∧ mR 183 = (some .boolean) := by decide +kernel
-- 184: ChairPastModel.mixed:(III)I, locals 3
theorem l184 : mL 184 = 3 := by decide +kernel
theorem k184_0 : decode (mB 184) 0 = .ok (.iload_n 0, 1) := by decide +kernel
theorem k184_1 : decode (mB 184) 1 = .ok (.iload_n 1, 1) := by decide +kernel
theorem k184_2 : decode (mB 184) 2 = .ok (.imul, 1) := by decide +kernel
theorem k184_3 : decode (mB 184) 3 = .ok (.iload_n 2, 1) := by decide +kernel
theorem k184_4 : decode (mB 184) 4 = .ok (.bipush 16, 2) := by decide +kernel
theorem k184_6 : decode (mB 184) 6 = .ok (.iload_n 1, 1) := by decide +kernel
theorem k184_7 : decode (mB 184) 7 = .ok (.isub, 1) := by decide +kernel
theorem k184_8 : decode (mB 184) 8 = .ok (.imul, 1) := by decide +kernel
theorem k184_9 : decode (mB 184) 9 = .ok (.iadd, 1) := by decide +kernel
theorem k184_10 : decode (mB 184) 10 = .ok (.bipush 16, 2) := by decide +kernel
theorem k184_12 : decode (mB 184) 12 = .ok (.idiv, 1) := by decide +kernel
theorem k184_13 : decode (mB 184) 13 = .ok (.ireturn, 1) ∧ mR 184 = (some .int) := by decide +kernel
-- 185: ChairPastModel.bearing:([III)I, locals 5
theorem l185 : mL 185 = 5 := by decide +kernel
theorem k185_0 : decode (mB 185) 0 = .ok (.iconst 3, 1) := by decide +kernel
theorem k185_1 : decode (mB 185) 1 = .ok (.iconst 5, 1) := by decide +kernel
theorem k185_2 : decode (mB 185) 2 = .ok (.iload_n 1, 1) := by decide +kernel
theorem k185_3 : decode (mB 185) 3 = .ok (.imul, 1) := by decide +kernel
theorem k185_4 : decode (mB 185) 4 = .ok (.iadd, 1) := by decide +kernel
theorem k185_5 : decode (mB 185) 5 = .ok (.istore_n 3, 1) := by decide +kernel
theorem k185_6 : decode (mB 185) 6 = .ok (.aload_n 0, 1) := by decide +kernel
theorem k185_7 : decode (mB 185) 7 = .ok (.iload_n 3, 1) := by decide +kernel
theorem k185_8 : decode (mB 185) 8 = .ok (.iconst 2, 1) := by decide +kernel
theorem k185_9 : decode (mB 185) 9 = .ok (.iadd, 1) := by decide +kernel
theorem k185_10 : decode (mB 185) 10 = .ok (.iaload, 1) := by decide +kernel
theorem k185_11 : decode (mB 185) 11 = .ok (.ifCond .ne 7, 3) := by decide +kernel
theorem k185_14 : decode (mB 185) 14 = .ok (.iload_n 2, 1) := by decide +kernel
theorem k185_15 : decode (mB 185) 15 = .ok (.goto 8, 3) := by decide +kernel
theorem k185_18 : decode (mB 185) 18 = .ok (.aload_n 0, 1) := by decide +kernel
theorem k185_19 : decode (mB 185) 19 = .ok (.iload_n 3, 1) := by decide +kernel
theorem k185_20 : decode (mB 185) 20 = .ok (.iconst 1, 1) := by decide +kernel
theorem k185_21 : decode (mB 185) 21 = .ok (.iadd, 1) := by decide +kernel
theorem k185_22 : decode (mB 185) 22 = .ok (.iaload, 1) := by decide +kernel
theorem k185_23 : decode (mB 185) 23 = .ok (.istore 4, 2) := by decide +kernel
theorem k185_25 : decode (mB 185) 25 = .ok (.aload_n 0, 1) := by decide +kernel
theorem k185_26 : decode (mB 185) 26 = .ok (.iload_n 3, 1) := by decide +kernel
theorem k185_27 : decode (mB 185) 27 = .ok (.iaload, 1) := by decide +kernel
theorem k185_28 : decode (mB 185) 28 = .ok (.tableswitch 99 1 4 #[32, 47, 76, 96], 32) := by decide +kernel
theorem k185_60 : decode (mB 185) 60 = .ok (.aload_n 0, 1) := by decide +kernel
theorem k185_61 : decode (mB 185) 61 = .ok (.iload_n 3, 1) := by decide +kernel
theorem k185_62 : decode (mB 185) 62 = .ok (.iconst 1, 1) := by decide +kernel
theorem k185_63 : decode (mB 185) 63 = .ok (.iadd, 1) := by decide +kernel
theorem k185_64 : decode (mB 185) 64 = .ok (.iaload, 1) := by decide +kernel
theorem k185_65 : decode (mB 185) 65 = .ok (.aload_n 0, 1) := by decide +kernel
theorem k185_66 : decode (mB 185) 66 = .ok (.iload_n 3, 1) := by decide +kernel
theorem k185_67 : decode (mB 185) 67 = .ok (.iconst 2, 1) := by decide +kernel
theorem k185_68 : decode (mB 185) 68 = .ok (.iadd, 1) := by decide +kernel
theorem k185_69 : decode (mB 185) 69 = .ok (.iaload, 1) := by decide +kernel
theorem k185_70 : decode (mB 185) 70 = .ok (.iload_n 2, 1) := by decide +kernel
theorem k185_71 : decode (mB 185) 71 = .ok (.invokestatic 148, 3) ∧ tM (mO 185) 148 = none ∧ tS (mO 185) 148 = some 184 := by decide +kernel
theorem k185_74 : decode (mB 185) 74 = .ok (.ireturn, 1) ∧ mR 185 = (some .int) := by decide +kernel
theorem k185_75 : decode (mB 185) 75 = .ok (.aload_n 0, 1) := by decide +kernel
theorem k185_76 : decode (mB 185) 76 = .ok (.iload_n 3, 1) := by decide +kernel
theorem k185_77 : decode (mB 185) 77 = .ok (.iconst 4, 1) := by decide +kernel
theorem k185_78 : decode (mB 185) 78 = .ok (.iadd, 1) := by decide +kernel
theorem k185_79 : decode (mB 185) 79 = .ok (.iaload, 1) := by decide +kernel
theorem k185_80 : decode (mB 185) 80 = .ok (.iconst 2, 1) := by decide +kernel
theorem k185_81 : decode (mB 185) 81 = .ok (.irem, 1) := by decide +kernel
theorem k185_82 : decode (mB 185) 82 = .ok (.ifCond .ne 20, 3) := by decide +kernel
theorem k185_85 : decode (mB 185) 85 = .ok (.aload_n 0, 1) := by decide +kernel
theorem k185_86 : decode (mB 185) 86 = .ok (.iload_n 3, 1) := by decide +kernel
theorem k185_87 : decode (mB 185) 87 = .ok (.iconst 1, 1) := by decide +kernel
theorem k185_88 : decode (mB 185) 88 = .ok (.iadd, 1) := by decide +kernel
theorem k185_89 : decode (mB 185) 89 = .ok (.iaload, 1) := by decide +kernel
theorem k185_90 : decode (mB 185) 90 = .ok (.aload_n 0, 1) := by decide +kernel
theorem k185_91 : decode (mB 185) 91 = .ok (.iload_n 3, 1) := by decide +kernel
theorem k185_92 : decode (mB 185) 92 = .ok (.iconst 2, 1) := by decide +kernel
theorem k185_93 : decode (mB 185) 93 = .ok (.iadd, 1) := by decide +kernel
theorem k185_94 : decode (mB 185) 94 = .ok (.iaload, 1) := by decide +kernel
theorem k185_95 : decode (mB 185) 95 = .ok (.iload_n 2, 1) := by decide +kernel
theorem k185_96 : decode (mB 185) 96 = .ok (.invokestatic 148, 3) ∧ tM (mO 185) 148 = none ∧ tS (mO 185) 148 = some 184 := by decide +kernel
theorem k185_99 : decode (mB 185) 99 = .ok (.goto 4, 3) := by decide +kernel
theorem k185_102 : decode (mB 185) 102 = .ok (.iload_n 2, 1) := by decide +kernel
theorem k185_103 : decode (mB 185) 103 = .ok (.ireturn, 1) ∧ mR 185 = (some .int) := by decide +kernel
theorem k185_104 : decode (mB 185) 104 = .ok (.aload_n 0, 1) := by decide +kernel
theorem k185_105 : decode (mB 185) 105 = .ok (.iload_n 3, 1) := by decide +kernel
theorem k185_106 : decode (mB 185) 106 = .ok (.iconst 1, 1) := by decide +kernel
theorem k185_107 : decode (mB 185) 107 = .ok (.iadd, 1) := by decide +kernel
theorem k185_108 : decode (mB 185) 108 = .ok (.iaload, 1) := by decide +kernel
theorem k185_109 : decode (mB 185) 109 = .ok (.iconst 1, 1) := by decide +kernel
theorem k185_110 : decode (mB 185) 110 = .ok (.iadd, 1) := by decide +kernel
theorem k185_111 : decode (mB 185) 111 = .ok (.bipush 10, 2) := by decide +kernel
theorem k185_113 : decode (mB 185) 113 = .ok (.irem, 1) := by decide +kernel
theorem k185_114 : decode (mB 185) 114 = .ok (.aload_n 0, 1) := by decide +kernel
theorem k185_115 : decode (mB 185) 115 = .ok (.iload_n 3, 1) := by decide +kernel
theorem k185_116 : decode (mB 185) 116 = .ok (.iconst 2, 1) := by decide +kernel
theorem k185_117 : decode (mB 185) 117 = .ok (.iadd, 1) := by decide +kernel
theorem k185_118 : decode (mB 185) 118 = .ok (.iaload, 1) := by decide +kernel
theorem k185_119 : decode (mB 185) 119 = .ok (.iload_n 2, 1) := by decide +kernel
theorem k185_120 : decode (mB 185) 120 = .ok (.invokestatic 148, 3) ∧ tM (mO 185) 148 = none ∧ tS (mO 185) 148 = some 184 := by decide +kernel
theorem k185_123 : decode (mB 185) 123 = .ok (.ireturn, 1) ∧ mR 185 = (some .int) := by decide +kernel
theorem k185_124 : decode (mB 185) 124 = .ok (.iload 4, 2) := by decide +kernel
theorem k185_126 : decode (mB 185) 126 = .ok (.ireturn, 1) ∧ mR 185 = (some .int) := by decide +kernel
theorem k185_127 : decode (mB 185) 127 = .ok (.iload 4, 2) := by decide +kernel
theorem k185_129 : decode (mB 185) 129 = .ok (.iconst 5, 1) := by decide +kernel
theorem k185_130 : decode (mB 185) 130 = .ok (.if_icmp .ge 7, 3) := by decide +kernel
theorem k185_133 : decode (mB 185) 133 = .ok (.iconst 5, 1) := by decide +kernel
theorem k185_134 : decode (mB 185) 134 = .ok (.goto 5, 3) := by decide +kernel
theorem k185_137 : decode (mB 185) 137 = .ok (.iload 4, 2) := by decide +kernel
theorem k185_139 : decode (mB 185) 139 = .ok (.ireturn, 1) ∧ mR 185 = (some .int) := by decide +kernel
-- 186: ChairPastModel.sits:([III)I, locals 6
theorem l186 : mL 186 = 6 := by decide +kernel
theorem k186_0 : decode (mB 186) 0 = .ok (.iconst 3, 1) := by decide +kernel
theorem k186_1 : decode (mB 186) 1 = .ok (.iconst 5, 1) := by decide +kernel
theorem k186_2 : decode (mB 186) 2 = .ok (.iload_n 2, 1) := by decide +kernel
theorem k186_3 : decode (mB 186) 3 = .ok (.imul, 1) := by decide +kernel
theorem k186_4 : decode (mB 186) 4 = .ok (.iadd, 1) := by decide +kernel
theorem k186_5 : decode (mB 186) 5 = .ok (.istore_n 3, 1) := by decide +kernel
theorem k186_6 : decode (mB 186) 6 = .ok (.aload_n 0, 1) := by decide +kernel
theorem k186_7 : decode (mB 186) 7 = .ok (.bipush 28, 2) := by decide +kernel
theorem k186_9 : decode (mB 186) 9 = .ok (.iconst 4, 1) := by decide +kernel
theorem k186_10 : decode (mB 186) 10 = .ok (.iload_n 1, 1) := by decide +kernel
theorem k186_11 : decode (mB 186) 11 = .ok (.imul, 1) := by decide +kernel
theorem k186_12 : decode (mB 186) 12 = .ok (.iadd, 1) := by decide +kernel
theorem k186_13 : decode (mB 186) 13 = .ok (.iaload, 1) := by decide +kernel
theorem k186_14 : decode (mB 186) 14 = .ok (.istore 4, 2) := by decide +kernel
theorem k186_16 : decode (mB 186) 16 = .ok (.aload_n 0, 1) := by decide +kernel
theorem k186_17 : decode (mB 186) 17 = .ok (.iload_n 2, 1) := by decide +kernel
theorem k186_18 : decode (mB 186) 18 = .ok (.iload 4, 2) := by decide +kernel
theorem k186_20 : decode (mB 186) 20 = .ok (.invokestatic 152, 3) ∧ tM (mO 186) 152 = none ∧ tS (mO 186) 152 = some 185 := by decide +kernel
theorem k186_23 : decode (mB 186) 23 = .ok (.istore 5, 2) := by decide +kernel
theorem k186_25 : decode (mB 186) 25 = .ok (.aload_n 0, 1) := by decide +kernel
theorem k186_26 : decode (mB 186) 26 = .ok (.iload_n 3, 1) := by decide +kernel
theorem k186_27 : decode (mB 186) 27 = .ok (.iconst 4, 1) := by decide +kernel
theorem k186_28 : decode (mB 186) 28 = .ok (.iadd, 1) := by decide +kernel
theorem k186_29 : decode (mB 186) 29 = .ok (.dup2, 1) := by decide +kernel
theorem k186_30 : decode (mB 186) 30 = .ok (.iaload, 1) := by decide +kernel
theorem k186_31 : decode (mB 186) 31 = .ok (.aload_n 0, 1) := by decide +kernel
theorem k186_32 : decode (mB 186) 32 = .ok (.iload_n 3, 1) := by decide +kernel
theorem k186_33 : decode (mB 186) 33 = .ok (.iconst 4, 1) := by decide +kernel
theorem k186_34 : decode (mB 186) 34 = .ok (.iadd, 1) := by decide +kernel
theorem k186_35 : decode (mB 186) 35 = .ok (.iaload, 1) := by decide +kernel
theorem k186_36 : decode (mB 186) 36 = .ok (.sipush 999, 3) := by decide +kernel
theorem k186_39 : decode (mB 186) 39 = .ok (.if_icmp .ge 7, 3) := by decide +kernel
theorem k186_42 : decode (mB 186) 42 = .ok (.iconst 1, 1) := by decide +kernel
theorem k186_43 : decode (mB 186) 43 = .ok (.goto 4, 3) := by decide +kernel
theorem k186_46 : decode (mB 186) 46 = .ok (.iconst 0, 1) := by decide +kernel
theorem k186_47 : decode (mB 186) 47 = .ok (.iadd, 1) := by decide +kernel
theorem k186_48 : decode (mB 186) 48 = .ok (.iastore, 1) := by decide +kernel
theorem k186_49 : decode (mB 186) 49 = .ok (.aload_n 0, 1) := by decide +kernel
theorem k186_50 : decode (mB 186) 50 = .ok (.iload_n 3, 1) := by decide +kernel
theorem k186_51 : decode (mB 186) 51 = .ok (.iconst 2, 1) := by decide +kernel
theorem k186_52 : decode (mB 186) 52 = .ok (.iadd, 1) := by decide +kernel
theorem k186_53 : decode (mB 186) 53 = .ok (.dup2, 1) := by decide +kernel
theorem k186_54 : decode (mB 186) 54 = .ok (.iaload, 1) := by decide +kernel
theorem k186_55 : decode (mB 186) 55 = .ok (.aload_n 0, 1) := by decide +kernel
theorem k186_56 : decode (mB 186) 56 = .ok (.iload_n 3, 1) := by decide +kernel
theorem k186_57 : decode (mB 186) 57 = .ok (.iaload, 1) := by decide +kernel
theorem k186_58 : decode (mB 186) 58 = .ok (.iconst 4, 1) := by decide +kernel
theorem k186_59 : decode (mB 186) 59 = .ok (.if_icmp .ge 15, 3) := by decide +kernel
theorem k186_62 : decode (mB 186) 62 = .ok (.aload_n 0, 1) := by decide +kernel
theorem k186_63 : decode (mB 186) 63 = .ok (.iload_n 3, 1) := by decide +kernel
theorem k186_64 : decode (mB 186) 64 = .ok (.iconst 2, 1) := by decide +kernel
theorem k186_65 : decode (mB 186) 65 = .ok (.iadd, 1) := by decide +kernel
theorem k186_66 : decode (mB 186) 66 = .ok (.iaload, 1) := by decide +kernel
theorem k186_67 : decode (mB 186) 67 = .ok (.iconst 3, 1) := by decide +kernel
theorem k186_68 : decode (mB 186) 68 = .ok (.iadd, 1) := by decide +kernel
theorem k186_69 : decode (mB 186) 69 = .ok (.iconst 4, 1) := by decide +kernel
theorem k186_70 : decode (mB 186) 70 = .ok (.idiv, 1) := by decide +kernel
theorem k186_71 : decode (mB 186) 71 = .ok (.goto 4, 3) := by decide +kernel
theorem k186_74 : decode (mB 186) 74 = .ok (.iconst 0, 1) := by decide +kernel
theorem k186_75 : decode (mB 186) 75 = .ok (.isub, 1) := by decide +kernel
theorem k186_76 : decode (mB 186) 76 = .ok (.iastore, 1) := by decide +kernel
theorem k186_77 : decode (mB 186) 77 = .ok (.aload_n 0, 1) := by decide +kernel
theorem k186_78 : decode (mB 186) 78 = .ok (.iload_n 3, 1) := by decide +kernel
theorem k186_79 : decode (mB 186) 79 = .ok (.iconst 1, 1) := by decide +kernel
theorem k186_80 : decode (mB 186) 80 = .ok (.iadd, 1) := by decide +kernel
theorem k186_81 : decode (mB 186) 81 = .ok (.aload_n 0, 1) := by decide +kernel
theorem k186_82 : decode (mB 186) 82 = .ok (.iload_n 3, 1) := by decide +kernel
theorem k186_83 : decode (mB 186) 83 = .ok (.iaload, 1) := by decide +kernel
theorem k186_84 : decode (mB 186) 84 = .ok (.iconst 3, 1) := by decide +kernel
theorem k186_85 : decode (mB 186) 85 = .ok (.if_icmp .ne 16, 3) := by decide +kernel
theorem k186_88 : decode (mB 186) 88 = .ok (.aload_n 0, 1) := by decide +kernel
theorem k186_89 : decode (mB 186) 89 = .ok (.iload_n 3, 1) := by decide +kernel
theorem k186_90 : decode (mB 186) 90 = .ok (.iconst 1, 1) := by decide +kernel
theorem k186_91 : decode (mB 186) 91 = .ok (.iadd, 1) := by decide +kernel
theorem k186_92 : decode (mB 186) 92 = .ok (.iaload, 1) := by decide +kernel
theorem k186_93 : decode (mB 186) 93 = .ok (.iconst 1, 1) := by decide +kernel
theorem k186_94 : decode (mB 186) 94 = .ok (.iadd, 1) := by decide +kernel
theorem k186_95 : decode (mB 186) 95 = .ok (.bipush 10, 2) := by decide +kernel
theorem k186_97 : decode (mB 186) 97 = .ok (.irem, 1) := by decide +kernel
theorem k186_98 : decode (mB 186) 98 = .ok (.goto 8, 3) := by decide +kernel
theorem k186_101 : decode (mB 186) 101 = .ok (.aload_n 0, 1) := by decide +kernel
theorem k186_102 : decode (mB 186) 102 = .ok (.iload_n 3, 1) := by decide +kernel
theorem k186_103 : decode (mB 186) 103 = .ok (.iconst 1, 1) := by decide +kernel
theorem k186_104 : decode (mB 186) 104 = .ok (.iadd, 1) := by decide +kernel
theorem k186_105 : decode (mB 186) 105 = .ok (.iaload, 1) := by decide +kernel
theorem k186_106 : decode (mB 186) 106 = .ok (.iastore, 1) := by decide +kernel
theorem k186_107 : decode (mB 186) 107 = .ok (.aload_n 0, 1) := by decide +kernel
theorem k186_108 : decode (mB 186) 108 = .ok (.iload_n 3, 1) := by decide +kernel
theorem k186_109 : decode (mB 186) 109 = .ok (.iconst 2, 1) := by decide +kernel
theorem k186_110 : decode (mB 186) 110 = .ok (.iadd, 1) := by decide +kernel
theorem k186_111 : decode (mB 186) 111 = .ok (.iaload, 1) := by decide +kernel
theorem k186_112 : decode (mB 186) 112 = .ok (.aload_n 0, 1) := by decide +kernel
theorem k186_113 : decode (mB 186) 113 = .ok (.bipush 28, 2) := by decide +kernel
theorem k186_115 : decode (mB 186) 115 = .ok (.iconst 4, 1) := by decide +kernel
theorem k186_116 : decode (mB 186) 116 = .ok (.iload_n 1, 1) := by decide +kernel
theorem k186_117 : decode (mB 186) 117 = .ok (.imul, 1) := by decide +kernel
theorem k186_118 : decode (mB 186) 118 = .ok (.iadd, 1) := by decide +kernel
theorem k186_119 : decode (mB 186) 119 = .ok (.iconst 1, 1) := by decide +kernel
theorem k186_120 : decode (mB 186) 120 = .ok (.iadd, 1) := by decide +kernel
theorem k186_121 : decode (mB 186) 121 = .ok (.iaload, 1) := by decide +kernel
theorem k186_122 : decode (mB 186) 122 = .ok (.if_icmp .ge 17, 3) := by decide +kernel
theorem k186_125 : decode (mB 186) 125 = .ok (.aload_n 0, 1) := by decide +kernel
theorem k186_126 : decode (mB 186) 126 = .ok (.iload_n 3, 1) := by decide +kernel
theorem k186_127 : decode (mB 186) 127 = .ok (.iconst 1, 1) := by decide +kernel
theorem k186_128 : decode (mB 186) 128 = .ok (.iadd, 1) := by decide +kernel
theorem k186_129 : decode (mB 186) 129 = .ok (.iload 4, 2) := by decide +kernel
theorem k186_131 : decode (mB 186) 131 = .ok (.iastore, 1) := by decide +kernel
theorem k186_132 : decode (mB 186) 132 = .ok (.aload_n 0, 1) := by decide +kernel
theorem k186_133 : decode (mB 186) 133 = .ok (.iload_n 3, 1) := by decide +kernel
theorem k186_134 : decode (mB 186) 134 = .ok (.iconst 2, 1) := by decide +kernel
theorem k186_135 : decode (mB 186) 135 = .ok (.iadd, 1) := by decide +kernel
theorem k186_136 : decode (mB 186) 136 = .ok (.bipush 16, 2) := by decide +kernel
theorem k186_138 : decode (mB 186) 138 = .ok (.iastore, 1) := by decide +kernel
theorem k186_139 : decode (mB 186) 139 = .ok (.iload 5, 2) := by decide +kernel
theorem k186_141 : decode (mB 186) 141 = .ok (.ireturn, 1) ∧ mR 186 = (some .int) := by decide +kernel
-- 187: ChairPastModel.sitter:([II)I, locals 3
theorem l187 : mL 187 = 3 := by decide +kernel
theorem k187_0 : decode (mB 187) 0 = .ok (.iconst 0, 1) := by decide +kernel
theorem k187_1 : decode (mB 187) 1 = .ok (.istore_n 2, 1) := by decide +kernel
theorem k187_2 : decode (mB 187) 2 = .ok (.iload_n 2, 1) := by decide +kernel
theorem k187_3 : decode (mB 187) 3 = .ok (.aload_n 0, 1) := by decide +kernel
theorem k187_4 : decode (mB 187) 4 = .ok (.iconst 2, 1) := by decide +kernel
theorem k187_5 : decode (mB 187) 5 = .ok (.iaload, 1) := by decide +kernel
theorem k187_6 : decode (mB 187) 6 = .ok (.if_icmp .ge 27, 3) := by decide +kernel
theorem k187_9 : decode (mB 187) 9 = .ok (.aload_n 0, 1) := by decide +kernel
theorem k187_10 : decode (mB 187) 10 = .ok (.bipush 28, 2) := by decide +kernel
theorem k187_12 : decode (mB 187) 12 = .ok (.iconst 4, 1) := by decide +kernel
theorem k187_13 : decode (mB 187) 13 = .ok (.iload_n 2, 1) := by decide +kernel
theorem k187_14 : decode (mB 187) 14 = .ok (.imul, 1) := by decide +kernel
theorem k187_15 : decode (mB 187) 15 = .ok (.iadd, 1) := by decide +kernel
theorem k187_16 : decode (mB 187) 16 = .ok (.iconst 2, 1) := by decide +kernel
theorem k187_17 : decode (mB 187) 17 = .ok (.iadd, 1) := by decide +kernel
theorem k187_18 : decode (mB 187) 18 = .ok (.iaload, 1) := by decide +kernel
theorem k187_19 : decode (mB 187) 19 = .ok (.iload_n 1, 1) := by decide +kernel
theorem k187_20 : decode (mB 187) 20 = .ok (.iconst 1, 1) := by decide +kernel
theorem k187_21 : decode (mB 187) 21 = .ok (.iadd, 1) := by decide +kernel
theorem k187_22 : decode (mB 187) 22 = .ok (.if_icmp .ne 5, 3) := by decide +kernel
theorem k187_25 : decode (mB 187) 25 = .ok (.iload_n 2, 1) := by decide +kernel
theorem k187_26 : decode (mB 187) 26 = .ok (.ireturn, 1) ∧ mR 187 = (some .int) := by decide +kernel
theorem k187_27 : decode (mB 187) 27 = .ok (.iinc 2 1, 3) := by decide +kernel
theorem k187_30 : decode (mB 187) 30 = .ok (.goto (-28), 3) := by decide +kernel
theorem k187_33 : decode (mB 187) 33 = .ok (.ldc 53, 2) ∧ tK (mO 187) 53 = some (-1000000) := by decide +kernel
theorem k187_35 : decode (mB 187) 35 = .ok (.ireturn, 1) ∧ mR 187 = (some .int) := by decide +kernel
-- 188: ChairPastModel.puts:([III)V, locals 3
theorem l188 : mL 188 = 3 := by decide +kernel
theorem k188_0 : decode (mB 188) 0 = .ok (.aload_n 0, 1) := by decide +kernel
theorem k188_1 : decode (mB 188) 1 = .ok (.bipush 28, 2) := by decide +kernel
theorem k188_3 : decode (mB 188) 3 = .ok (.iconst 4, 1) := by decide +kernel
theorem k188_4 : decode (mB 188) 4 = .ok (.iload_n 1, 1) := by decide +kernel
theorem k188_5 : decode (mB 188) 5 = .ok (.imul, 1) := by decide +kernel
theorem k188_6 : decode (mB 188) 6 = .ok (.iadd, 1) := by decide +kernel
theorem k188_7 : decode (mB 188) 7 = .ok (.iconst 3, 1) := by decide +kernel
theorem k188_8 : decode (mB 188) 8 = .ok (.iadd, 1) := by decide +kernel
theorem k188_9 : decode (mB 188) 9 = .ok (.aload_n 0, 1) := by decide +kernel
theorem k188_10 : decode (mB 188) 10 = .ok (.iload_n 1, 1) := by decide +kernel
theorem k188_11 : decode (mB 188) 11 = .ok (.iload_n 2, 1) := by decide +kernel
theorem k188_12 : decode (mB 188) 12 = .ok (.invokestatic 156, 3) ∧ tM (mO 188) 156 = none ∧ tS (mO 188) 156 = some 186 := by decide +kernel
theorem k188_15 : decode (mB 188) 15 = .ok (.iastore, 1) := by decide +kernel
theorem k188_16 : decode (mB 188) 16 = .ok (.aload_n 0, 1) := by decide +kernel
theorem k188_17 : decode (mB 188) 17 = .ok (.bipush 28, 2) := by decide +kernel
theorem k188_19 : decode (mB 188) 19 = .ok (.iconst 4, 1) := by decide +kernel
theorem k188_20 : decode (mB 188) 20 = .ok (.iload_n 1, 1) := by decide +kernel
theorem k188_21 : decode (mB 188) 21 = .ok (.imul, 1) := by decide +kernel
theorem k188_22 : decode (mB 188) 22 = .ok (.iadd, 1) := by decide +kernel
theorem k188_23 : decode (mB 188) 23 = .ok (.iconst 2, 1) := by decide +kernel
theorem k188_24 : decode (mB 188) 24 = .ok (.iadd, 1) := by decide +kernel
theorem k188_25 : decode (mB 188) 25 = .ok (.iload_n 2, 1) := by decide +kernel
theorem k188_26 : decode (mB 188) 26 = .ok (.iconst 1, 1) := by decide +kernel
theorem k188_27 : decode (mB 188) 27 = .ok (.iadd, 1) := by decide +kernel
theorem k188_28 : decode (mB 188) 28 = .ok (.iastore, 1) := by decide +kernel
theorem k188_29 : decode (mB 188) 29 = .ok (.return_, 1) ∧ mR 188 = none := by decide +kernel
-- 189: ChairPastModel.peaceOf:([I)I, locals 6
theorem l189 : mL 189 = 6 := by decide +kernel
theorem k189_0 : decode (mB 189) 0 = .ok (.iconst 0, 1) := by decide +kernel
theorem k189_1 : decode (mB 189) 1 = .ok (.istore_n 1, 1) := by decide +kernel
theorem k189_2 : decode (mB 189) 2 = .ok (.iconst 0, 1) := by decide +kernel
theorem k189_3 : decode (mB 189) 3 = .ok (.istore_n 2, 1) := by decide +kernel
theorem k189_4 : decode (mB 189) 4 = .ok (.iload_n 2, 1) := by decide +kernel
theorem k189_5 : decode (mB 189) 5 = .ok (.iconst 1, 1) := by decide +kernel
theorem k189_6 : decode (mB 189) 6 = .ok (.iadd, 1) := by decide +kernel
theorem k189_7 : decode (mB 189) 7 = .ok (.aload_n 0, 1) := by decide +kernel
theorem k189_8 : decode (mB 189) 8 = .ok (.iconst 1, 1) := by decide +kernel
theorem k189_9 : decode (mB 189) 9 = .ok (.iaload, 1) := by decide +kernel
theorem k189_10 : decode (mB 189) 10 = .ok (.if_icmp .ge 119, 3) := by decide +kernel
theorem k189_13 : decode (mB 189) 13 = .ok (.aload_n 0, 1) := by decide +kernel
theorem k189_14 : decode (mB 189) 14 = .ok (.iload_n 2, 1) := by decide +kernel
theorem k189_15 : decode (mB 189) 15 = .ok (.invokestatic 159, 3) ∧ tM (mO 189) 159 = none ∧ tS (mO 189) 159 = some 187 := by decide +kernel
theorem k189_18 : decode (mB 189) 18 = .ok (.istore_n 3, 1) := by decide +kernel
theorem k189_19 : decode (mB 189) 19 = .ok (.aload_n 0, 1) := by decide +kernel
theorem k189_20 : decode (mB 189) 20 = .ok (.iload_n 2, 1) := by decide +kernel
theorem k189_21 : decode (mB 189) 21 = .ok (.iconst 1, 1) := by decide +kernel
theorem k189_22 : decode (mB 189) 22 = .ok (.iadd, 1) := by decide +kernel
theorem k189_23 : decode (mB 189) 23 = .ok (.invokestatic 159, 3) ∧ tM (mO 189) 159 = none ∧ tS (mO 189) 159 = some 187 := by decide +kernel
theorem k189_26 : decode (mB 189) 26 = .ok (.istore 4, 2) := by decide +kernel
theorem k189_28 : decode (mB 189) 28 = .ok (.iload_n 3, 1) := by decide +kernel
theorem k189_29 : decode (mB 189) 29 = .ok (.ldc 53, 2) ∧ tK (mO 189) 53 = some (-1000000) := by decide +kernel
theorem k189_31 : decode (mB 189) 31 = .ok (.if_icmp .eq 92, 3) := by decide +kernel
theorem k189_34 : decode (mB 189) 34 = .ok (.iload 4, 2) := by decide +kernel
theorem k189_36 : decode (mB 189) 36 = .ok (.ldc 53, 2) ∧ tK (mO 189) 53 = some (-1000000) := by decide +kernel
theorem k189_38 : decode (mB 189) 38 = .ok (.if_icmp .eq 85, 3) := by decide +kernel
theorem k189_41 : decode (mB 189) 41 = .ok (.aload_n 0, 1) := by decide +kernel
theorem k189_42 : decode (mB 189) 42 = .ok (.bipush 28, 2) := by decide +kernel
theorem k189_44 : decode (mB 189) 44 = .ok (.iconst 4, 1) := by decide +kernel
theorem k189_45 : decode (mB 189) 45 = .ok (.iload_n 3, 1) := by decide +kernel
theorem k189_46 : decode (mB 189) 46 = .ok (.imul, 1) := by decide +kernel
theorem k189_47 : decode (mB 189) 47 = .ok (.iadd, 1) := by decide +kernel
theorem k189_48 : decode (mB 189) 48 = .ok (.iconst 3, 1) := by decide +kernel
theorem k189_49 : decode (mB 189) 49 = .ok (.iadd, 1) := by decide +kernel
theorem k189_50 : decode (mB 189) 50 = .ok (.iaload, 1) := by decide +kernel
theorem k189_51 : decode (mB 189) 51 = .ok (.aload_n 0, 1) := by decide +kernel
theorem k189_52 : decode (mB 189) 52 = .ok (.bipush 28, 2) := by decide +kernel
theorem k189_54 : decode (mB 189) 54 = .ok (.iconst 4, 1) := by decide +kernel
theorem k189_55 : decode (mB 189) 55 = .ok (.iload 4, 2) := by decide +kernel
theorem k189_57 : decode (mB 189) 57 = .ok (.imul, 1) := by decide +kernel
theorem k189_58 : decode (mB 189) 58 = .ok (.iadd, 1) := by decide +kernel
theorem k189_59 : decode (mB 189) 59 = .ok (.iconst 3, 1) := by decide +kernel
theorem k189_60 : decode (mB 189) 60 = .ok (.iadd, 1) := by decide +kernel
theorem k189_61 : decode (mB 189) 61 = .ok (.iaload, 1) := by decide +kernel
theorem k189_62 : decode (mB 189) 62 = .ok (.isub, 1) := by decide +kernel
theorem k189_63 : decode (mB 189) 63 = .ok (.istore 5, 2) := by decide +kernel
theorem k189_65 : decode (mB 189) 65 = .ok (.iload_n 1, 1) := by decide +kernel
theorem k189_66 : decode (mB 189) 66 = .ok (.bipush 10, 2) := by decide +kernel
theorem k189_68 : decode (mB 189) 68 = .ok (.iload 5, 2) := by decide +kernel
theorem k189_70 : decode (mB 189) 70 = .ok (.ifCond .ge 9, 3) := by decide +kernel
theorem k189_73 : decode (mB 189) 73 = .ok (.iload 5, 2) := by decide +kernel
theorem k189_75 : decode (mB 189) 75 = .ok (.ineg, 1) := by decide +kernel
theorem k189_76 : decode (mB 189) 76 = .ok (.goto 5, 3) := by decide +kernel
theorem k189_79 : decode (mB 189) 79 = .ok (.iload 5, 2) := by decide +kernel
theorem k189_81 : decode (mB 189) 81 = .ok (.isub, 1) := by decide +kernel
theorem k189_82 : decode (mB 189) 82 = .ok (.iadd, 1) := by decide +kernel
theorem k189_83 : decode (mB 189) 83 = .ok (.istore_n 1, 1) := by decide +kernel
theorem k189_84 : decode (mB 189) 84 = .ok (.iload_n 1, 1) := by decide +kernel
theorem k189_85 : decode (mB 189) 85 = .ok (.iload_n 2, 1) := by decide +kernel
theorem k189_86 : decode (mB 189) 86 = .ok (.iconst 2, 1) := by decide +kernel
theorem k189_87 : decode (mB 189) 87 = .ok (.iadd, 1) := by decide +kernel
theorem k189_88 : decode (mB 189) 88 = .ok (.aload_n 0, 1) := by decide +kernel
theorem k189_89 : decode (mB 189) 89 = .ok (.iconst 1, 1) := by decide +kernel
theorem k189_90 : decode (mB 189) 90 = .ok (.iaload, 1) := by decide +kernel
theorem k189_91 : decode (mB 189) 91 = .ok (.if_icmp .ge 29, 3) := by decide +kernel
theorem k189_94 : decode (mB 189) 94 = .ok (.aload_n 0, 1) := by decide +kernel
theorem k189_95 : decode (mB 189) 95 = .ok (.iload_n 2, 1) := by decide +kernel
theorem k189_96 : decode (mB 189) 96 = .ok (.iconst 2, 1) := by decide +kernel
theorem k189_97 : decode (mB 189) 97 = .ok (.iadd, 1) := by decide +kernel
theorem k189_98 : decode (mB 189) 98 = .ok (.invokestatic 159, 3) ∧ tM (mO 189) 159 = none ∧ tS (mO 189) 159 = some 187 := by decide +kernel
theorem k189_101 : decode (mB 189) 101 = .ok (.ldc 53, 2) ∧ tK (mO 189) 53 = some (-1000000) := by decide +kernel
theorem k189_103 : decode (mB 189) 103 = .ok (.if_icmp .eq 17, 3) := by decide +kernel
theorem k189_106 : decode (mB 189) 106 = .ok (.aload_n 0, 1) := by decide +kernel
theorem k189_107 : decode (mB 189) 107 = .ok (.iload_n 2, 1) := by decide +kernel
theorem k189_108 : decode (mB 189) 108 = .ok (.invokestatic 163, 3) ∧ tM (mO 189) 163 = none ∧ tS (mO 189) 163 = some 190 := by decide +kernel
theorem k189_111 : decode (mB 189) 111 = .ok (.ifCond .eq 9, 3) := by decide +kernel
theorem k189_114 : decode (mB 189) 114 = .ok (.aload_n 0, 1) := by decide +kernel
theorem k189_115 : decode (mB 189) 115 = .ok (.iconst 0, 1) := by decide +kernel
theorem k189_116 : decode (mB 189) 116 = .ok (.iaload, 1) := by decide +kernel
theorem k189_117 : decode (mB 189) 117 = .ok (.goto 4, 3) := by decide +kernel
theorem k189_120 : decode (mB 189) 120 = .ok (.iconst 0, 1) := by decide +kernel
theorem k189_121 : decode (mB 189) 121 = .ok (.isub, 1) := by decide +kernel
theorem k189_122 : decode (mB 189) 122 = .ok (.istore_n 1, 1) := by decide +kernel
theorem k189_123 : decode (mB 189) 123 = .ok (.iinc 2 1, 3) := by decide +kernel
theorem k189_126 : decode (mB 189) 126 = .ok (.goto (-122), 3) := by decide +kernel
theorem k189_129 : decode (mB 189) 129 = .ok (.iload_n 1, 1) := by decide +kernel
theorem k189_130 : decode (mB 189) 130 = .ok (.ireturn, 1) ∧ mR 189 = (some .int) := by decide +kernel
-- 190: ChairPastModel.isTrio:([II)Z, locals 3
theorem l190 : mL 190 = 3 := by decide +kernel
theorem k190_0 : decode (mB 190) 0 = .ok (.aload_n 0, 1) := by decide +kernel
theorem k190_1 : decode (mB 190) 1 = .ok (.iconst 3, 1) := by decide +kernel
theorem k190_2 : decode (mB 190) 2 = .ok (.iconst 5, 1) := by decide +kernel
theorem k190_3 : decode (mB 190) 3 = .ok (.iload_n 1, 1) := by decide +kernel
theorem k190_4 : decode (mB 190) 4 = .ok (.imul, 1) := by decide +kernel
theorem k190_5 : decode (mB 190) 5 = .ok (.iadd, 1) := by decide +kernel
theorem k190_6 : decode (mB 190) 6 = .ok (.iconst 3, 1) := by decide +kernel
theorem k190_7 : decode (mB 190) 7 = .ok (.iadd, 1) := by decide +kernel
theorem k190_8 : decode (mB 190) 8 = .ok (.iaload, 1) := by decide +kernel
theorem k190_9 : decode (mB 190) 9 = .ok (.istore_n 2, 1) := by decide +kernel
theorem k190_10 : decode (mB 190) 10 = .ok (.iload_n 1, 1) := by decide +kernel
theorem k190_11 : decode (mB 190) 11 = .ok (.iconst 2, 1) := by decide +kernel
theorem k190_12 : decode (mB 190) 12 = .ok (.iadd, 1) := by decide +kernel
theorem k190_13 : decode (mB 190) 13 = .ok (.aload_n 0, 1) := by decide +kernel
theorem k190_14 : decode (mB 190) 14 = .ok (.iconst 1, 1) := by decide +kernel
theorem k190_15 : decode (mB 190) 15 = .ok (.iaload, 1) := by decide +kernel
theorem k190_16 : decode (mB 190) 16 = .ok (.if_icmp .ge 38, 3) := by decide +kernel
theorem k190_19 : decode (mB 190) 19 = .ok (.aload_n 0, 1) := by decide +kernel
theorem k190_20 : decode (mB 190) 20 = .ok (.iconst 3, 1) := by decide +kernel
theorem k190_21 : decode (mB 190) 21 = .ok (.iconst 5, 1) := by decide +kernel
theorem k190_22 : decode (mB 190) 22 = .ok (.iload_n 1, 1) := by decide +kernel
theorem k190_23 : decode (mB 190) 23 = .ok (.imul, 1) := by decide +kernel
theorem k190_24 : decode (mB 190) 24 = .ok (.iadd, 1) := by decide +kernel
theorem k190_25 : decode (mB 190) 25 = .ok (.iconst 5, 1) := by decide +kernel
theorem k190_26 : decode (mB 190) 26 = .ok (.iadd, 1) := by decide +kernel
theorem k190_27 : decode (mB 190) 27 = .ok (.iconst 3, 1) := by decide +kernel
theorem k190_28 : decode (mB 190) 28 = .ok (.iadd, 1) := by decide +kernel
theorem k190_29 : decode (mB 190) 29 = .ok (.iaload, 1) := by decide +kernel
theorem k190_30 : decode (mB 190) 30 = .ok (.iload_n 2, 1) := by decide +kernel
theorem k190_31 : decode (mB 190) 31 = .ok (.if_icmp .ne 23, 3) := by decide +kernel
theorem k190_34 : decode (mB 190) 34 = .ok (.aload_n 0, 1) := by decide +kernel
theorem k190_35 : decode (mB 190) 35 = .ok (.iconst 3, 1) := by decide +kernel
theorem k190_36 : decode (mB 190) 36 = .ok (.iconst 5, 1) := by decide +kernel
theorem k190_37 : decode (mB 190) 37 = .ok (.iload_n 1, 1) := by decide +kernel
theorem k190_38 : decode (mB 190) 38 = .ok (.imul, 1) := by decide +kernel
theorem k190_39 : decode (mB 190) 39 = .ok (.iadd, 1) := by decide +kernel
theorem k190_40 : decode (mB 190) 40 = .ok (.bipush 10, 2) := by decide +kernel
theorem k190_42 : decode (mB 190) 42 = .ok (.iadd, 1) := by decide +kernel
theorem k190_43 : decode (mB 190) 43 = .ok (.iconst 3, 1) := by decide +kernel
theorem k190_44 : decode (mB 190) 44 = .ok (.iadd, 1) := by decide +kernel
theorem k190_45 : decode (mB 190) 45 = .ok (.iaload, 1) := by decide +kernel
theorem k190_46 : decode (mB 190) 46 = .ok (.iload_n 2, 1) := by decide +kernel
theorem k190_47 : decode (mB 190) 47 = .ok (.if_icmp .ne 7, 3) := by decide +kernel
theorem k190_50 : decode (mB 190) 50 = .ok (.iconst 1, 1) := by decide +kernel
theorem k190_51 : decode (mB 190) 51 = .ok (.goto 4, 3) := by decide +kernel
theorem k190_54 : decode (mB 190) 54 = .ok (.iconst 0, 1) := by decide +kernel
theorem k190_55 : decode (mB 190) 55 = .ok (.ireturn, 1) ∧ mR 190 = (some .boolean) := by decide +kernel
end
section
-- 191: ChairPastModel.notes:()V, locals 2
theorem l191 : mL 191 = 2 := by decide +kernel
theorem k191_0 : decode (mB 191) 0 = .ok (.aload_n 0, 1) := by decide +kernel
theorem k191_1 : decode (mB 191) 1 = .ok (.getfield 145, 3) ∧ tF (mO 191) 145 = some (11, 17, 0, 0) := by decide +kernel
theorem k191_4 : decode (mB 191) 4 = .ok (.bipush 24, 2) := by decide +kernel
theorem k191_6 : decode (mB 191) 6 = .ok (.if_icmp .ne 43, 3) := by decide +kernel
theorem k191_9 : decode (mB 191) 9 = .ok (.iconst 0, 1) := by decide +kernel
theorem k191_10 : decode (mB 191) 10 = .ok (.istore_n 1, 1) := by decide +kernel
theorem k191_11 : decode (mB 191) 11 = .ok (.iload_n 1, 1) := by decide +kernel
theorem k191_12 : decode (mB 191) 12 = .ok (.sipush 1104, 3) := by decide +kernel
theorem k191_15 : decode (mB 191) 15 = .ok (.if_icmp .ge 24, 3) := by decide +kernel
theorem k191_18 : decode (mB 191) 18 = .ok (.aload_n 0, 1) := by decide +kernel
theorem k191_19 : decode (mB 191) 19 = .ok (.getfield 34, 3) ∧ tF (mO 191) 34 = some (11, 16, 1, 1) := by decide +kernel
theorem k191_22 : decode (mB 191) 22 = .ok (.iload_n 1, 1) := by decide +kernel
theorem k191_23 : decode (mB 191) 23 = .ok (.aload_n 0, 1) := by decide +kernel
theorem k191_24 : decode (mB 191) 24 = .ok (.getfield 34, 3) ∧ tF (mO 191) 34 = some (11, 16, 1, 1) := by decide +kernel
theorem k191_27 : decode (mB 191) 27 = .ok (.iload_n 1, 1) := by decide +kernel
theorem k191_28 : decode (mB 191) 28 = .ok (.bipush 48, 2) := by decide +kernel
theorem k191_30 : decode (mB 191) 30 = .ok (.iadd, 1) := by decide +kernel
theorem k191_31 : decode (mB 191) 31 = .ok (.iaload, 1) := by decide +kernel
theorem k191_32 : decode (mB 191) 32 = .ok (.iastore, 1) := by decide +kernel
theorem k191_33 : decode (mB 191) 33 = .ok (.iinc 1 1, 3) := by decide +kernel
theorem k191_36 : decode (mB 191) 36 = .ok (.goto (-25), 3) := by decide +kernel
theorem k191_39 : decode (mB 191) 39 = .ok (.aload_n 0, 1) := by decide +kernel
theorem k191_40 : decode (mB 191) 40 = .ok (.dup, 1) := by decide +kernel
theorem k191_41 : decode (mB 191) 41 = .ok (.getfield 145, 3) ∧ tF (mO 191) 145 = some (11, 17, 0, 0) := by decide +kernel
theorem k191_44 : decode (mB 191) 44 = .ok (.iconst 1, 1) := by decide +kernel
theorem k191_45 : decode (mB 191) 45 = .ok (.isub, 1) := by decide +kernel
theorem k191_46 : decode (mB 191) 46 = .ok (.putfield 145, 3) ∧ tF (mO 191) 145 = some (11, 17, 0, 0) := by decide +kernel
theorem k191_49 : decode (mB 191) 49 = .ok (.aload_n 0, 1) := by decide +kernel
theorem k191_50 : decode (mB 191) 50 = .ok (.getfield 25, 3) ∧ tF (mO 191) 25 = some (11, 13, 1, 1) := by decide +kernel
theorem k191_53 : decode (mB 191) 53 = .ok (.iconst 0, 1) := by decide +kernel
theorem k191_54 : decode (mB 191) 54 = .ok (.aload_n 0, 1) := by decide +kernel
theorem k191_55 : decode (mB 191) 55 = .ok (.getfield 34, 3) ∧ tF (mO 191) 34 = some (11, 16, 1, 1) := by decide +kernel
theorem k191_58 : decode (mB 191) 58 = .ok (.bipush 48, 2) := by decide +kernel
theorem k191_60 : decode (mB 191) 60 = .ok (.aload_n 0, 1) := by decide +kernel
theorem k191_61 : decode (mB 191) 61 = .ok (.getfield 145, 3) ∧ tF (mO 191) 145 = some (11, 17, 0, 0) := by decide +kernel
theorem k191_64 : decode (mB 191) 64 = .ok (.imul, 1) := by decide +kernel
theorem k191_65 : decode (mB 191) 65 = .ok (.invokestatic 141, 3) ∧ tM (mO 191) 141 = none ∧ tS (mO 191) 141 = some 159 := by decide +kernel
theorem k191_68 : decode (mB 191) 68 = .ok (.aload_n 0, 1) := by decide +kernel
theorem k191_69 : decode (mB 191) 69 = .ok (.dup, 1) := by decide +kernel
theorem k191_70 : decode (mB 191) 70 = .ok (.getfield 145, 3) ∧ tF (mO 191) 145 = some (11, 17, 0, 0) := by decide +kernel
theorem k191_73 : decode (mB 191) 73 = .ok (.iconst 1, 1) := by decide +kernel
theorem k191_74 : decode (mB 191) 74 = .ok (.iadd, 1) := by decide +kernel
theorem k191_75 : decode (mB 191) 75 = .ok (.putfield 145, 3) ∧ tF (mO 191) 145 = some (11, 17, 0, 0) := by decide +kernel
theorem k191_78 : decode (mB 191) 78 = .ok (.return_, 1) ∧ mR 191 = none := by decide +kernel
-- 192: ChairPastModel.sit:(II)I, locals 3
theorem l192 : mL 192 = 3 := by decide +kernel
theorem k192_0 : decode (mB 192) 0 = .ok (.aload_n 0, 1) := by decide +kernel
theorem k192_1 : decode (mB 192) 1 = .ok (.iload_n 1, 1) := by decide +kernel
theorem k192_2 : decode (mB 192) 2 = .ok (.invokevirtual 167, 3) ∧ tVn (mO 192) 167 = some 1 ∧ tV (mO 192) 167 11 = some 183 := by decide +kernel
theorem k192_5 : decode (mB 192) 5 = .ok (.ifCond .eq 11, 3) := by decide +kernel
theorem k192_8 : decode (mB 192) 8 = .ok (.aload_n 0, 1) := by decide +kernel
theorem k192_9 : decode (mB 192) 9 = .ok (.iload_n 2, 1) := by decide +kernel
theorem k192_10 : decode (mB 192) 10 = .ok (.invokevirtual 170, 3) ∧ tVn (mO 192) 170 = some 1 ∧ tV (mO 192) 170 11 = some 182 := by decide +kernel
theorem k192_13 : decode (mB 192) 13 = .ok (.ifCond .ne 6, 3) := by decide +kernel
theorem k192_16 : decode (mB 192) 16 = .ok (.ldc 67, 2) ∧ tK (mO 192) 67 = some (-1000001) := by decide +kernel
theorem k192_18 : decode (mB 192) 18 = .ok (.ireturn, 1) ∧ mR 192 = (some .int) := by decide +kernel
theorem k192_19 : decode (mB 192) 19 = .ok (.aload_n 0, 1) := by decide +kernel
theorem k192_20 : decode (mB 192) 20 = .ok (.getfield 25, 3) ∧ tF (mO 192) 25 = some (11, 13, 1, 1) := by decide +kernel
theorem k192_23 : decode (mB 192) 23 = .ok (.bipush 28, 2) := by decide +kernel
theorem k192_25 : decode (mB 192) 25 = .ok (.iconst 4, 1) := by decide +kernel
theorem k192_26 : decode (mB 192) 26 = .ok (.iload_n 1, 1) := by decide +kernel
theorem k192_27 : decode (mB 192) 27 = .ok (.imul, 1) := by decide +kernel
theorem k192_28 : decode (mB 192) 28 = .ok (.iadd, 1) := by decide +kernel
theorem k192_29 : decode (mB 192) 29 = .ok (.iconst 2, 1) := by decide +kernel
theorem k192_30 : decode (mB 192) 30 = .ok (.iadd, 1) := by decide +kernel
theorem k192_31 : decode (mB 192) 31 = .ok (.iaload, 1) := by decide +kernel
theorem k192_32 : decode (mB 192) 32 = .ok (.ifCond .gt 16, 3) := by decide +kernel
theorem k192_35 : decode (mB 192) 35 = .ok (.aload_n 0, 1) := by decide +kernel
theorem k192_36 : decode (mB 192) 36 = .ok (.getfield 25, 3) ∧ tF (mO 192) 25 = some (11, 13, 1, 1) := by decide +kernel
theorem k192_39 : decode (mB 192) 39 = .ok (.iload_n 2, 1) := by decide +kernel
theorem k192_40 : decode (mB 192) 40 = .ok (.invokestatic 159, 3) ∧ tM (mO 192) 159 = none ∧ tS (mO 192) 159 = some 187 := by decide +kernel
theorem k192_43 : decode (mB 192) 43 = .ok (.ldc 53, 2) ∧ tK (mO 192) 53 = some (-1000000) := by decide +kernel
theorem k192_45 : decode (mB 192) 45 = .ok (.if_icmp .eq 6, 3) := by decide +kernel
theorem k192_48 : decode (mB 192) 48 = .ok (.ldc 173, 2) ∧ tK (mO 192) 173 = some (-1000002) := by decide +kernel
theorem k192_50 : decode (mB 192) 50 = .ok (.ireturn, 1) ∧ mR 192 = (some .int) := by decide +kernel
theorem k192_51 : decode (mB 192) 51 = .ok (.aload_n 0, 1) := by decide +kernel
theorem k192_52 : decode (mB 192) 52 = .ok (.invokevirtual 174, 3) ∧ tVn (mO 192) 174 = some 0 ∧ tV (mO 192) 174 11 = some 191 := by decide +kernel
theorem k192_55 : decode (mB 192) 55 = .ok (.aload_n 0, 1) := by decide +kernel
theorem k192_56 : decode (mB 192) 56 = .ok (.getfield 25, 3) ∧ tF (mO 192) 25 = some (11, 13, 1, 1) := by decide +kernel
theorem k192_59 : decode (mB 192) 59 = .ok (.iload_n 1, 1) := by decide +kernel
theorem k192_60 : decode (mB 192) 60 = .ok (.iload_n 2, 1) := by decide +kernel
theorem k192_61 : decode (mB 192) 61 = .ok (.invokestatic 177, 3) ∧ tM (mO 192) 177 = none ∧ tS (mO 192) 177 = some 188 := by decide +kernel
theorem k192_64 : decode (mB 192) 64 = .ok (.aload_n 0, 1) := by decide +kernel
theorem k192_65 : decode (mB 192) 65 = .ok (.getfield 25, 3) ∧ tF (mO 192) 25 = some (11, 13, 1, 1) := by decide +kernel
theorem k192_68 : decode (mB 192) 68 = .ok (.bipush 28, 2) := by decide +kernel
theorem k192_70 : decode (mB 192) 70 = .ok (.iconst 4, 1) := by decide +kernel
theorem k192_71 : decode (mB 192) 71 = .ok (.iload_n 1, 1) := by decide +kernel
theorem k192_72 : decode (mB 192) 72 = .ok (.imul, 1) := by decide +kernel
theorem k192_73 : decode (mB 192) 73 = .ok (.iadd, 1) := by decide +kernel
theorem k192_74 : decode (mB 192) 74 = .ok (.iconst 3, 1) := by decide +kernel
theorem k192_75 : decode (mB 192) 75 = .ok (.iadd, 1) := by decide +kernel
theorem k192_76 : decode (mB 192) 76 = .ok (.iaload, 1) := by decide +kernel
theorem k192_77 : decode (mB 192) 77 = .ok (.ireturn, 1) ∧ mR 192 = (some .int) := by decide +kernel
-- 193: ChairPastModel.rise:(I)I, locals 4
theorem l193 : mL 193 = 4 := by decide +kernel
theorem k193_0 : decode (mB 193) 0 = .ok (.aload_n 0, 1) := by decide +kernel
theorem k193_1 : decode (mB 193) 1 = .ok (.iload_n 1, 1) := by decide +kernel
theorem k193_2 : decode (mB 193) 2 = .ok (.invokevirtual 167, 3) ∧ tVn (mO 193) 167 = some 1 ∧ tV (mO 193) 167 11 = some 183 := by decide +kernel
theorem k193_5 : decode (mB 193) 5 = .ok (.ifCond .ne 6, 3) := by decide +kernel
theorem k193_8 : decode (mB 193) 8 = .ok (.ldc 67, 2) ∧ tK (mO 193) 67 = some (-1000001) := by decide +kernel
theorem k193_10 : decode (mB 193) 10 = .ok (.ireturn, 1) ∧ mR 193 = (some .int) := by decide +kernel
theorem k193_11 : decode (mB 193) 11 = .ok (.bipush 28, 2) := by decide +kernel
theorem k193_13 : decode (mB 193) 13 = .ok (.iconst 4, 1) := by decide +kernel
theorem k193_14 : decode (mB 193) 14 = .ok (.iload_n 1, 1) := by decide +kernel
theorem k193_15 : decode (mB 193) 15 = .ok (.imul, 1) := by decide +kernel
theorem k193_16 : decode (mB 193) 16 = .ok (.iadd, 1) := by decide +kernel
theorem k193_17 : decode (mB 193) 17 = .ok (.iconst 2, 1) := by decide +kernel
theorem k193_18 : decode (mB 193) 18 = .ok (.iadd, 1) := by decide +kernel
theorem k193_19 : decode (mB 193) 19 = .ok (.istore_n 2, 1) := by decide +kernel
theorem k193_20 : decode (mB 193) 20 = .ok (.aload_n 0, 1) := by decide +kernel
theorem k193_21 : decode (mB 193) 21 = .ok (.getfield 25, 3) ∧ tF (mO 193) 25 = some (11, 13, 1, 1) := by decide +kernel
theorem k193_24 : decode (mB 193) 24 = .ok (.iload_n 2, 1) := by decide +kernel
theorem k193_25 : decode (mB 193) 25 = .ok (.iaload, 1) := by decide +kernel
theorem k193_26 : decode (mB 193) 26 = .ok (.ifCond .ne 6, 3) := by decide +kernel
theorem k193_29 : decode (mB 193) 29 = .ok (.ldc 173, 2) ∧ tK (mO 193) 173 = some (-1000002) := by decide +kernel
theorem k193_31 : decode (mB 193) 31 = .ok (.ireturn, 1) ∧ mR 193 = (some .int) := by decide +kernel
theorem k193_32 : decode (mB 193) 32 = .ok (.aload_n 0, 1) := by decide +kernel
theorem k193_33 : decode (mB 193) 33 = .ok (.invokevirtual 174, 3) ∧ tVn (mO 193) 174 = some 0 ∧ tV (mO 193) 174 11 = some 191 := by decide +kernel
theorem k193_36 : decode (mB 193) 36 = .ok (.aload_n 0, 1) := by decide +kernel
theorem k193_37 : decode (mB 193) 37 = .ok (.getfield 25, 3) ∧ tF (mO 193) 25 = some (11, 13, 1, 1) := by decide +kernel
theorem k193_40 : decode (mB 193) 40 = .ok (.iload_n 2, 1) := by decide +kernel
theorem k193_41 : decode (mB 193) 41 = .ok (.iaload, 1) := by decide +kernel
theorem k193_42 : decode (mB 193) 42 = .ok (.iconst 1, 1) := by decide +kernel
theorem k193_43 : decode (mB 193) 43 = .ok (.isub, 1) := by decide +kernel
theorem k193_44 : decode (mB 193) 44 = .ok (.istore_n 3, 1) := by decide +kernel
theorem k193_45 : decode (mB 193) 45 = .ok (.aload_n 0, 1) := by decide +kernel
theorem k193_46 : decode (mB 193) 46 = .ok (.getfield 25, 3) ∧ tF (mO 193) 25 = some (11, 13, 1, 1) := by decide +kernel
theorem k193_49 : decode (mB 193) 49 = .ok (.iload_n 2, 1) := by decide +kernel
theorem k193_50 : decode (mB 193) 50 = .ok (.iconst 0, 1) := by decide +kernel
theorem k193_51 : decode (mB 193) 51 = .ok (.iastore, 1) := by decide +kernel
theorem k193_52 : decode (mB 193) 52 = .ok (.iload_n 3, 1) := by decide +kernel
theorem k193_53 : decode (mB 193) 53 = .ok (.ireturn, 1) ∧ mR 193 = (some .int) := by decide +kernel
-- 194: ChairPastModel.recane:(I)I, locals 3
theorem l194 : mL 194 = 3 := by decide +kernel
theorem k194_0 : decode (mB 194) 0 = .ok (.aload_n 0, 1) := by decide +kernel
theorem k194_1 : decode (mB 194) 1 = .ok (.iload_n 1, 1) := by decide +kernel
theorem k194_2 : decode (mB 194) 2 = .ok (.invokevirtual 170, 3) ∧ tVn (mO 194) 170 = some 1 ∧ tV (mO 194) 170 11 = some 182 := by decide +kernel
theorem k194_5 : decode (mB 194) 5 = .ok (.ifCond .ne 6, 3) := by decide +kernel
theorem k194_8 : decode (mB 194) 8 = .ok (.ldc 67, 2) ∧ tK (mO 194) 67 = some (-1000001) := by decide +kernel
theorem k194_10 : decode (mB 194) 10 = .ok (.ireturn, 1) ∧ mR 194 = (some .int) := by decide +kernel
theorem k194_11 : decode (mB 194) 11 = .ok (.aload_n 0, 1) := by decide +kernel
theorem k194_12 : decode (mB 194) 12 = .ok (.invokevirtual 174, 3) ∧ tVn (mO 194) 174 = some 0 ∧ tV (mO 194) 174 11 = some 191 := by decide +kernel
theorem k194_15 : decode (mB 194) 15 = .ok (.aload_n 0, 1) := by decide +kernel
theorem k194_16 : decode (mB 194) 16 = .ok (.getfield 25, 3) ∧ tF (mO 194) 25 = some (11, 13, 1, 1) := by decide +kernel
theorem k194_19 : decode (mB 194) 19 = .ok (.iconst 3, 1) := by decide +kernel
theorem k194_20 : decode (mB 194) 20 = .ok (.iconst 5, 1) := by decide +kernel
theorem k194_21 : decode (mB 194) 21 = .ok (.iload_n 1, 1) := by decide +kernel
theorem k194_22 : decode (mB 194) 22 = .ok (.imul, 1) := by decide +kernel
theorem k194_23 : decode (mB 194) 23 = .ok (.iadd, 1) := by decide +kernel
theorem k194_24 : decode (mB 194) 24 = .ok (.iconst 2, 1) := by decide +kernel
theorem k194_25 : decode (mB 194) 25 = .ok (.iadd, 1) := by decide +kernel
theorem k194_26 : decode (mB 194) 26 = .ok (.iaload, 1) := by decide +kernel
theorem k194_27 : decode (mB 194) 27 = .ok (.istore_n 2, 1) := by decide +kernel
theorem k194_28 : decode (mB 194) 28 = .ok (.aload_n 0, 1) := by decide +kernel
theorem k194_29 : decode (mB 194) 29 = .ok (.getfield 25, 3) ∧ tF (mO 194) 25 = some (11, 13, 1, 1) := by decide +kernel
theorem k194_32 : decode (mB 194) 32 = .ok (.iconst 3, 1) := by decide +kernel
theorem k194_33 : decode (mB 194) 33 = .ok (.iconst 5, 1) := by decide +kernel
theorem k194_34 : decode (mB 194) 34 = .ok (.iload_n 1, 1) := by decide +kernel
theorem k194_35 : decode (mB 194) 35 = .ok (.imul, 1) := by decide +kernel
theorem k194_36 : decode (mB 194) 36 = .ok (.iadd, 1) := by decide +kernel
theorem k194_37 : decode (mB 194) 37 = .ok (.iconst 2, 1) := by decide +kernel
theorem k194_38 : decode (mB 194) 38 = .ok (.iadd, 1) := by decide +kernel
theorem k194_39 : decode (mB 194) 39 = .ok (.iconst 0, 1) := by decide +kernel
theorem k194_40 : decode (mB 194) 40 = .ok (.iastore, 1) := by decide +kernel
theorem k194_41 : decode (mB 194) 41 = .ok (.iload_n 2, 1) := by decide +kernel
theorem k194_42 : decode (mB 194) 42 = .ok (.ireturn, 1) ∧ mR 194 = (some .int) := by decide +kernel
-- 195: ChairPastModel.move:(I)I, locals 4
theorem l195 : mL 195 = 4 := by decide +kernel
theorem k195_0 : decode (mB 195) 0 = .ok (.aload_n 0, 1) := by decide +kernel
theorem k195_1 : decode (mB 195) 1 = .ok (.iload_n 1, 1) := by decide +kernel
theorem k195_2 : decode (mB 195) 2 = .ok (.invokevirtual 170, 3) ∧ tVn (mO 195) 170 = some 1 ∧ tV (mO 195) 170 11 = some 182 := by decide +kernel
theorem k195_5 : decode (mB 195) 5 = .ok (.ifCond .eq 13, 3) := by decide +kernel
theorem k195_8 : decode (mB 195) 8 = .ok (.aload_n 0, 1) := by decide +kernel
theorem k195_9 : decode (mB 195) 9 = .ok (.iload_n 1, 1) := by decide +kernel
theorem k195_10 : decode (mB 195) 10 = .ok (.iconst 1, 1) := by decide +kernel
theorem k195_11 : decode (mB 195) 11 = .ok (.iadd, 1) := by decide +kernel
theorem k195_12 : decode (mB 195) 12 = .ok (.invokevirtual 170, 3) ∧ tVn (mO 195) 170 = some 1 ∧ tV (mO 195) 170 11 = some 182 := by decide +kernel
theorem k195_15 : decode (mB 195) 15 = .ok (.ifCond .ne 6, 3) := by decide +kernel
theorem k195_18 : decode (mB 195) 18 = .ok (.ldc 67, 2) ∧ tK (mO 195) 67 = some (-1000001) := by decide +kernel
theorem k195_20 : decode (mB 195) 20 = .ok (.ireturn, 1) ∧ mR 195 = (some .int) := by decide +kernel
theorem k195_21 : decode (mB 195) 21 = .ok (.aload_n 0, 1) := by decide +kernel
theorem k195_22 : decode (mB 195) 22 = .ok (.invokevirtual 174, 3) ∧ tVn (mO 195) 174 = some 0 ∧ tV (mO 195) 174 11 = some 191 := by decide +kernel
theorem k195_25 : decode (mB 195) 25 = .ok (.iconst 0, 1) := by decide +kernel
theorem k195_26 : decode (mB 195) 26 = .ok (.istore_n 2, 1) := by decide +kernel
theorem k195_27 : decode (mB 195) 27 = .ok (.iload_n 2, 1) := by decide +kernel
theorem k195_28 : decode (mB 195) 28 = .ok (.iconst 5, 1) := by decide +kernel
theorem k195_29 : decode (mB 195) 29 = .ok (.if_icmp .ge 63, 3) := by decide +kernel
theorem k195_32 : decode (mB 195) 32 = .ok (.aload_n 0, 1) := by decide +kernel
theorem k195_33 : decode (mB 195) 33 = .ok (.getfield 25, 3) ∧ tF (mO 195) 25 = some (11, 13, 1, 1) := by decide +kernel
theorem k195_36 : decode (mB 195) 36 = .ok (.iconst 3, 1) := by decide +kernel
theorem k195_37 : decode (mB 195) 37 = .ok (.iconst 5, 1) := by decide +kernel
theorem k195_38 : decode (mB 195) 38 = .ok (.iload_n 1, 1) := by decide +kernel
theorem k195_39 : decode (mB 195) 39 = .ok (.imul, 1) := by decide +kernel
theorem k195_40 : decode (mB 195) 40 = .ok (.iadd, 1) := by decide +kernel
theorem k195_41 : decode (mB 195) 41 = .ok (.iload_n 2, 1) := by decide +kernel
theorem k195_42 : decode (mB 195) 42 = .ok (.iadd, 1) := by decide +kernel
theorem k195_43 : decode (mB 195) 43 = .ok (.iaload, 1) := by decide +kernel
theorem k195_44 : decode (mB 195) 44 = .ok (.istore_n 3, 1) := by decide +kernel
theorem k195_45 : decode (mB 195) 45 = .ok (.aload_n 0, 1) := by decide +kernel
theorem k195_46 : decode (mB 195) 46 = .ok (.getfield 25, 3) ∧ tF (mO 195) 25 = some (11, 13, 1, 1) := by decide +kernel
theorem k195_49 : decode (mB 195) 49 = .ok (.iconst 3, 1) := by decide +kernel
theorem k195_50 : decode (mB 195) 50 = .ok (.iconst 5, 1) := by decide +kernel
theorem k195_51 : decode (mB 195) 51 = .ok (.iload_n 1, 1) := by decide +kernel
theorem k195_52 : decode (mB 195) 52 = .ok (.imul, 1) := by decide +kernel
theorem k195_53 : decode (mB 195) 53 = .ok (.iadd, 1) := by decide +kernel
theorem k195_54 : decode (mB 195) 54 = .ok (.iload_n 2, 1) := by decide +kernel
theorem k195_55 : decode (mB 195) 55 = .ok (.iadd, 1) := by decide +kernel
theorem k195_56 : decode (mB 195) 56 = .ok (.aload_n 0, 1) := by decide +kernel
theorem k195_57 : decode (mB 195) 57 = .ok (.getfield 25, 3) ∧ tF (mO 195) 25 = some (11, 13, 1, 1) := by decide +kernel
theorem k195_60 : decode (mB 195) 60 = .ok (.iconst 3, 1) := by decide +kernel
theorem k195_61 : decode (mB 195) 61 = .ok (.iconst 5, 1) := by decide +kernel
theorem k195_62 : decode (mB 195) 62 = .ok (.iload_n 1, 1) := by decide +kernel
theorem k195_63 : decode (mB 195) 63 = .ok (.imul, 1) := by decide +kernel
theorem k195_64 : decode (mB 195) 64 = .ok (.iadd, 1) := by decide +kernel
theorem k195_65 : decode (mB 195) 65 = .ok (.iconst 5, 1) := by decide +kernel
theorem k195_66 : decode (mB 195) 66 = .ok (.iadd, 1) := by decide +kernel
theorem k195_67 : decode (mB 195) 67 = .ok (.iload_n 2, 1) := by decide +kernel
theorem k195_68 : decode (mB 195) 68 = .ok (.iadd, 1) := by decide +kernel
theorem k195_69 : decode (mB 195) 69 = .ok (.iaload, 1) := by decide +kernel
theorem k195_70 : decode (mB 195) 70 = .ok (.iastore, 1) := by decide +kernel
theorem k195_71 : decode (mB 195) 71 = .ok (.aload_n 0, 1) := by decide +kernel
theorem k195_72 : decode (mB 195) 72 = .ok (.getfield 25, 3) ∧ tF (mO 195) 25 = some (11, 13, 1, 1) := by decide +kernel
theorem k195_75 : decode (mB 195) 75 = .ok (.iconst 3, 1) := by decide +kernel
theorem k195_76 : decode (mB 195) 76 = .ok (.iconst 5, 1) := by decide +kernel
theorem k195_77 : decode (mB 195) 77 = .ok (.iload_n 1, 1) := by decide +kernel
theorem k195_78 : decode (mB 195) 78 = .ok (.imul, 1) := by decide +kernel
theorem k195_79 : decode (mB 195) 79 = .ok (.iadd, 1) := by decide +kernel
theorem k195_80 : decode (mB 195) 80 = .ok (.iconst 5, 1) := by decide +kernel
theorem k195_81 : decode (mB 195) 81 = .ok (.iadd, 1) := by decide +kernel
theorem k195_82 : decode (mB 195) 82 = .ok (.iload_n 2, 1) := by decide +kernel
theorem k195_83 : decode (mB 195) 83 = .ok (.iadd, 1) := by decide +kernel
theorem k195_84 : decode (mB 195) 84 = .ok (.iload_n 3, 1) := by decide +kernel
theorem k195_85 : decode (mB 195) 85 = .ok (.iastore, 1) := by decide +kernel
theorem k195_86 : decode (mB 195) 86 = .ok (.iinc 2 1, 3) := by decide +kernel
theorem k195_89 : decode (mB 195) 89 = .ok (.goto (-62), 3) := by decide +kernel
theorem k195_92 : decode (mB 195) 92 = .ok (.iconst 0, 1) := by decide +kernel
theorem k195_93 : decode (mB 195) 93 = .ok (.istore_n 2, 1) := by decide +kernel
theorem k195_94 : decode (mB 195) 94 = .ok (.iload_n 2, 1) := by decide +kernel
theorem k195_95 : decode (mB 195) 95 = .ok (.aload_n 0, 1) := by decide +kernel
theorem k195_96 : decode (mB 195) 96 = .ok (.getfield 25, 3) ∧ tF (mO 195) 25 = some (11, 13, 1, 1) := by decide +kernel
theorem k195_99 : decode (mB 195) 99 = .ok (.iconst 2, 1) := by decide +kernel
theorem k195_100 : decode (mB 195) 100 = .ok (.iaload, 1) := by decide +kernel
theorem k195_101 : decode (mB 195) 101 = .ok (.if_icmp .ge 63, 3) := by decide +kernel
theorem k195_104 : decode (mB 195) 104 = .ok (.aload_n 0, 1) := by decide +kernel
theorem k195_105 : decode (mB 195) 105 = .ok (.getfield 25, 3) ∧ tF (mO 195) 25 = some (11, 13, 1, 1) := by decide +kernel
theorem k195_108 : decode (mB 195) 108 = .ok (.bipush 28, 2) := by decide +kernel
theorem k195_110 : decode (mB 195) 110 = .ok (.iconst 4, 1) := by decide +kernel
theorem k195_111 : decode (mB 195) 111 = .ok (.iload_n 2, 1) := by decide +kernel
theorem k195_112 : decode (mB 195) 112 = .ok (.imul, 1) := by decide +kernel
theorem k195_113 : decode (mB 195) 113 = .ok (.iadd, 1) := by decide +kernel
theorem k195_114 : decode (mB 195) 114 = .ok (.iconst 2, 1) := by decide +kernel
theorem k195_115 : decode (mB 195) 115 = .ok (.iadd, 1) := by decide +kernel
theorem k195_116 : decode (mB 195) 116 = .ok (.iaload, 1) := by decide +kernel
theorem k195_117 : decode (mB 195) 117 = .ok (.istore_n 3, 1) := by decide +kernel
theorem k195_118 : decode (mB 195) 118 = .ok (.aload_n 0, 1) := by decide +kernel
theorem k195_119 : decode (mB 195) 119 = .ok (.getfield 25, 3) ∧ tF (mO 195) 25 = some (11, 13, 1, 1) := by decide +kernel
theorem k195_122 : decode (mB 195) 122 = .ok (.bipush 28, 2) := by decide +kernel
theorem k195_124 : decode (mB 195) 124 = .ok (.iconst 4, 1) := by decide +kernel
theorem k195_125 : decode (mB 195) 125 = .ok (.iload_n 2, 1) := by decide +kernel
theorem k195_126 : decode (mB 195) 126 = .ok (.imul, 1) := by decide +kernel
theorem k195_127 : decode (mB 195) 127 = .ok (.iadd, 1) := by decide +kernel
theorem k195_128 : decode (mB 195) 128 = .ok (.iconst 2, 1) := by decide +kernel
theorem k195_129 : decode (mB 195) 129 = .ok (.iadd, 1) := by decide +kernel
theorem k195_130 : decode (mB 195) 130 = .ok (.iload_n 3, 1) := by decide +kernel
theorem k195_131 : decode (mB 195) 131 = .ok (.iload_n 1, 1) := by decide +kernel
theorem k195_132 : decode (mB 195) 132 = .ok (.iconst 1, 1) := by decide +kernel
theorem k195_133 : decode (mB 195) 133 = .ok (.iadd, 1) := by decide +kernel
theorem k195_134 : decode (mB 195) 134 = .ok (.if_icmp .ne 9, 3) := by decide +kernel
theorem k195_137 : decode (mB 195) 137 = .ok (.iload_n 1, 1) := by decide +kernel
theorem k195_138 : decode (mB 195) 138 = .ok (.iconst 2, 1) := by decide +kernel
theorem k195_139 : decode (mB 195) 139 = .ok (.iadd, 1) := by decide +kernel
theorem k195_140 : decode (mB 195) 140 = .ok (.goto 17, 3) := by decide +kernel
theorem k195_143 : decode (mB 195) 143 = .ok (.iload_n 3, 1) := by decide +kernel
theorem k195_144 : decode (mB 195) 144 = .ok (.iload_n 1, 1) := by decide +kernel
theorem k195_145 : decode (mB 195) 145 = .ok (.iconst 2, 1) := by decide +kernel
theorem k195_146 : decode (mB 195) 146 = .ok (.iadd, 1) := by decide +kernel
theorem k195_147 : decode (mB 195) 147 = .ok (.if_icmp .ne 9, 3) := by decide +kernel
theorem k195_150 : decode (mB 195) 150 = .ok (.iload_n 1, 1) := by decide +kernel
theorem k195_151 : decode (mB 195) 151 = .ok (.iconst 1, 1) := by decide +kernel
theorem k195_152 : decode (mB 195) 152 = .ok (.iadd, 1) := by decide +kernel
theorem k195_153 : decode (mB 195) 153 = .ok (.goto 4, 3) := by decide +kernel
theorem k195_156 : decode (mB 195) 156 = .ok (.iload_n 3, 1) := by decide +kernel
theorem k195_157 : decode (mB 195) 157 = .ok (.iastore, 1) := by decide +kernel
theorem k195_158 : decode (mB 195) 158 = .ok (.iinc 2 1, 3) := by decide +kernel
theorem k195_161 : decode (mB 195) 161 = .ok (.goto (-67), 3) := by decide +kernel
theorem k195_164 : decode (mB 195) 164 = .ok (.aload_n 0, 1) := by decide +kernel
theorem k195_165 : decode (mB 195) 165 = .ok (.getfield 25, 3) ∧ tF (mO 195) 25 = some (11, 13, 1, 1) := by decide +kernel
theorem k195_168 : decode (mB 195) 168 = .ok (.invokestatic 181, 3) ∧ tM (mO 195) 181 = none ∧ tS (mO 195) 181 = some 189 := by decide +kernel
theorem k195_171 : decode (mB 195) 171 = .ok (.ireturn, 1) ∧ mR 195 = (some .int) := by decide +kernel
-- 196: ChairPastModel.undo:()I, locals 1
theorem l196 : mL 196 = 1 := by decide +kernel
theorem k196_0 : decode (mB 196) 0 = .ok (.aload_n 0, 1) := by decide +kernel
theorem k196_1 : decode (mB 196) 1 = .ok (.getfield 145, 3) ∧ tF (mO 196) 145 = some (11, 17, 0, 0) := by decide +kernel
theorem k196_4 : decode (mB 196) 4 = .ok (.ifCond .ne 6, 3) := by decide +kernel
theorem k196_7 : decode (mB 196) 7 = .ok (.ldc 173, 2) ∧ tK (mO 196) 173 = some (-1000002) := by decide +kernel
theorem k196_9 : decode (mB 196) 9 = .ok (.ireturn, 1) ∧ mR 196 = (some .int) := by decide +kernel
theorem k196_10 : decode (mB 196) 10 = .ok (.aload_n 0, 1) := by decide +kernel
theorem k196_11 : decode (mB 196) 11 = .ok (.dup, 1) := by decide +kernel
theorem k196_12 : decode (mB 196) 12 = .ok (.getfield 145, 3) ∧ tF (mO 196) 145 = some (11, 17, 0, 0) := by decide +kernel
theorem k196_15 : decode (mB 196) 15 = .ok (.iconst 1, 1) := by decide +kernel
theorem k196_16 : decode (mB 196) 16 = .ok (.isub, 1) := by decide +kernel
theorem k196_17 : decode (mB 196) 17 = .ok (.putfield 145, 3) ∧ tF (mO 196) 145 = some (11, 17, 0, 0) := by decide +kernel
theorem k196_20 : decode (mB 196) 20 = .ok (.aload_n 0, 1) := by decide +kernel
theorem k196_21 : decode (mB 196) 21 = .ok (.getfield 34, 3) ∧ tF (mO 196) 34 = some (11, 16, 1, 1) := by decide +kernel
theorem k196_24 : decode (mB 196) 24 = .ok (.bipush 48, 2) := by decide +kernel
theorem k196_26 : decode (mB 196) 26 = .ok (.aload_n 0, 1) := by decide +kernel
theorem k196_27 : decode (mB 196) 27 = .ok (.getfield 145, 3) ∧ tF (mO 196) 145 = some (11, 17, 0, 0) := by decide +kernel
theorem k196_30 : decode (mB 196) 30 = .ok (.imul, 1) := by decide +kernel
theorem k196_31 : decode (mB 196) 31 = .ok (.aload_n 0, 1) := by decide +kernel
theorem k196_32 : decode (mB 196) 32 = .ok (.getfield 25, 3) ∧ tF (mO 196) 25 = some (11, 13, 1, 1) := by decide +kernel
theorem k196_35 : decode (mB 196) 35 = .ok (.iconst 0, 1) := by decide +kernel
theorem k196_36 : decode (mB 196) 36 = .ok (.invokestatic 141, 3) ∧ tM (mO 196) 141 = none ∧ tS (mO 196) 141 = some 159 := by decide +kernel
theorem k196_39 : decode (mB 196) 39 = .ok (.aload_n 0, 1) := by decide +kernel
theorem k196_40 : decode (mB 196) 40 = .ok (.getfield 145, 3) ∧ tF (mO 196) 145 = some (11, 17, 0, 0) := by decide +kernel
theorem k196_43 : decode (mB 196) 43 = .ok (.ireturn, 1) ∧ mR 196 = (some .int) := by decide +kernel
-- 197: ChairPastModel.chair:(II)I, locals 3
theorem l197 : mL 197 = 3 := by decide +kernel
theorem k197_0 : decode (mB 197) 0 = .ok (.aload_n 0, 1) := by decide +kernel
theorem k197_1 : decode (mB 197) 1 = .ok (.iload_n 1, 1) := by decide +kernel
theorem k197_2 : decode (mB 197) 2 = .ok (.invokevirtual 170, 3) ∧ tVn (mO 197) 170 = some 1 ∧ tV (mO 197) 170 11 = some 182 := by decide +kernel
theorem k197_5 : decode (mB 197) 5 = .ok (.ifCond .eq 12, 3) := by decide +kernel
theorem k197_8 : decode (mB 197) 8 = .ok (.iload_n 2, 1) := by decide +kernel
theorem k197_9 : decode (mB 197) 9 = .ok (.iconst 0, 1) := by decide +kernel
theorem k197_10 : decode (mB 197) 10 = .ok (.iconst 4, 1) := by decide +kernel
theorem k197_11 : decode (mB 197) 11 = .ok (.invokestatic 59, 3) ∧ tM (mO 197) 59 = none ∧ tS (mO 197) 59 = some 155 := by decide +kernel
theorem k197_14 : decode (mB 197) 14 = .ok (.ifCond .ne 6, 3) := by decide +kernel
theorem k197_17 : decode (mB 197) 17 = .ok (.ldc 67, 2) ∧ tK (mO 197) 67 = some (-1000001) := by decide +kernel
theorem k197_19 : decode (mB 197) 19 = .ok (.ireturn, 1) ∧ mR 197 = (some .int) := by decide +kernel
theorem k197_20 : decode (mB 197) 20 = .ok (.iload_n 2, 1) := by decide +kernel
theorem k197_21 : decode (mB 197) 21 = .ok (.iconst 4, 1) := by decide +kernel
theorem k197_22 : decode (mB 197) 22 = .ok (.if_icmp .ne 14, 3) := by decide +kernel
theorem k197_25 : decode (mB 197) 25 = .ok (.aload_n 0, 1) := by decide +kernel
theorem k197_26 : decode (mB 197) 26 = .ok (.getfield 25, 3) ∧ tF (mO 197) 25 = some (11, 13, 1, 1) := by decide +kernel
theorem k197_29 : decode (mB 197) 29 = .ok (.iload_n 1, 1) := by decide +kernel
theorem k197_30 : decode (mB 197) 30 = .ok (.invokestatic 159, 3) ∧ tM (mO 197) 159 = none ∧ tS (mO 197) 159 = some 187 := by decide +kernel
theorem k197_33 : decode (mB 197) 33 = .ok (.goto 17, 3) := by decide +kernel
theorem k197_36 : decode (mB 197) 36 = .ok (.aload_n 0, 1) := by decide +kernel
theorem k197_37 : decode (mB 197) 37 = .ok (.getfield 25, 3) ∧ tF (mO 197) 25 = some (11, 13, 1, 1) := by decide +kernel
theorem k197_40 : decode (mB 197) 40 = .ok (.iconst 3, 1) := by decide +kernel
theorem k197_41 : decode (mB 197) 41 = .ok (.iconst 5, 1) := by decide +kernel
theorem k197_42 : decode (mB 197) 42 = .ok (.iload_n 1, 1) := by decide +kernel
theorem k197_43 : decode (mB 197) 43 = .ok (.imul, 1) := by decide +kernel
theorem k197_44 : decode (mB 197) 44 = .ok (.iadd, 1) := by decide +kernel
theorem k197_45 : decode (mB 197) 45 = .ok (.iconst 1, 1) := by decide +kernel
theorem k197_46 : decode (mB 197) 46 = .ok (.iadd, 1) := by decide +kernel
theorem k197_47 : decode (mB 197) 47 = .ok (.iload_n 2, 1) := by decide +kernel
theorem k197_48 : decode (mB 197) 48 = .ok (.iadd, 1) := by decide +kernel
theorem k197_49 : decode (mB 197) 49 = .ok (.iaload, 1) := by decide +kernel
theorem k197_50 : decode (mB 197) 50 = .ok (.ireturn, 1) ∧ mR 197 = (some .int) := by decide +kernel
-- 198: ChairPastModel.guest:(II)I, locals 4
theorem l198 : mL 198 = 4 := by decide +kernel
theorem k198_0 : decode (mB 198) 0 = .ok (.aload_n 0, 1) := by decide +kernel
theorem k198_1 : decode (mB 198) 1 = .ok (.iload_n 1, 1) := by decide +kernel
theorem k198_2 : decode (mB 198) 2 = .ok (.invokevirtual 167, 3) ∧ tVn (mO 198) 167 = some 1 ∧ tV (mO 198) 167 11 = some 183 := by decide +kernel
theorem k198_5 : decode (mB 198) 5 = .ok (.ifCond .ne 6, 3) := by decide +kernel
theorem k198_8 : decode (mB 198) 8 = .ok (.ldc 67, 2) ∧ tK (mO 198) 67 = some (-1000001) := by decide +kernel
theorem k198_10 : decode (mB 198) 10 = .ok (.ireturn, 1) ∧ mR 198 = (some .int) := by decide +kernel
theorem k198_11 : decode (mB 198) 11 = .ok (.bipush 28, 2) := by decide +kernel
theorem k198_13 : decode (mB 198) 13 = .ok (.iconst 4, 1) := by decide +kernel
theorem k198_14 : decode (mB 198) 14 = .ok (.iload_n 1, 1) := by decide +kernel
theorem k198_15 : decode (mB 198) 15 = .ok (.imul, 1) := by decide +kernel
theorem k198_16 : decode (mB 198) 16 = .ok (.iadd, 1) := by decide +kernel
theorem k198_17 : decode (mB 198) 17 = .ok (.istore_n 3, 1) := by decide +kernel
theorem k198_18 : decode (mB 198) 18 = .ok (.iload_n 2, 1) := by decide +kernel
theorem k198_19 : decode (mB 198) 19 = .ok (.tableswitch 97 0 3 #[29, 36, 45, 72], 29) := by decide +kernel
theorem k198_48 : decode (mB 198) 48 = .ok (.aload_n 0, 1) := by decide +kernel
theorem k198_49 : decode (mB 198) 49 = .ok (.getfield 25, 3) ∧ tF (mO 198) 25 = some (11, 13, 1, 1) := by decide +kernel
theorem k198_52 : decode (mB 198) 52 = .ok (.iload_n 3, 1) := by decide +kernel
theorem k198_53 : decode (mB 198) 53 = .ok (.iaload, 1) := by decide +kernel
theorem k198_54 : decode (mB 198) 54 = .ok (.ireturn, 1) ∧ mR 198 = (some .int) := by decide +kernel
theorem k198_55 : decode (mB 198) 55 = .ok (.aload_n 0, 1) := by decide +kernel
theorem k198_56 : decode (mB 198) 56 = .ok (.getfield 25, 3) ∧ tF (mO 198) 25 = some (11, 13, 1, 1) := by decide +kernel
theorem k198_59 : decode (mB 198) 59 = .ok (.iload_n 3, 1) := by decide +kernel
theorem k198_60 : decode (mB 198) 60 = .ok (.iconst 1, 1) := by decide +kernel
theorem k198_61 : decode (mB 198) 61 = .ok (.iadd, 1) := by decide +kernel
theorem k198_62 : decode (mB 198) 62 = .ok (.iaload, 1) := by decide +kernel
theorem k198_63 : decode (mB 198) 63 = .ok (.ireturn, 1) ∧ mR 198 = (some .int) := by decide +kernel
theorem k198_64 : decode (mB 198) 64 = .ok (.aload_n 0, 1) := by decide +kernel
theorem k198_65 : decode (mB 198) 65 = .ok (.getfield 25, 3) ∧ tF (mO 198) 25 = some (11, 13, 1, 1) := by decide +kernel
theorem k198_68 : decode (mB 198) 68 = .ok (.iload_n 3, 1) := by decide +kernel
theorem k198_69 : decode (mB 198) 69 = .ok (.iconst 2, 1) := by decide +kernel
theorem k198_70 : decode (mB 198) 70 = .ok (.iadd, 1) := by decide +kernel
theorem k198_71 : decode (mB 198) 71 = .ok (.iaload, 1) := by decide +kernel
theorem k198_72 : decode (mB 198) 72 = .ok (.ifCond .ne 8, 3) := by decide +kernel
theorem k198_75 : decode (mB 198) 75 = .ok (.ldc 53, 2) ∧ tK (mO 198) 53 = some (-1000000) := by decide +kernel
theorem k198_77 : decode (mB 198) 77 = .ok (.goto 13, 3) := by decide +kernel
theorem k198_80 : decode (mB 198) 80 = .ok (.aload_n 0, 1) := by decide +kernel
theorem k198_81 : decode (mB 198) 81 = .ok (.getfield 25, 3) ∧ tF (mO 198) 25 = some (11, 13, 1, 1) := by decide +kernel
theorem k198_84 : decode (mB 198) 84 = .ok (.iload_n 3, 1) := by decide +kernel
theorem k198_85 : decode (mB 198) 85 = .ok (.iconst 2, 1) := by decide +kernel
theorem k198_86 : decode (mB 198) 86 = .ok (.iadd, 1) := by decide +kernel
theorem k198_87 : decode (mB 198) 87 = .ok (.iaload, 1) := by decide +kernel
theorem k198_88 : decode (mB 198) 88 = .ok (.iconst 1, 1) := by decide +kernel
theorem k198_89 : decode (mB 198) 89 = .ok (.isub, 1) := by decide +kernel
theorem k198_90 : decode (mB 198) 90 = .ok (.ireturn, 1) ∧ mR 198 = (some .int) := by decide +kernel
theorem k198_91 : decode (mB 198) 91 = .ok (.aload_n 0, 1) := by decide +kernel
theorem k198_92 : decode (mB 198) 92 = .ok (.getfield 25, 3) ∧ tF (mO 198) 25 = some (11, 13, 1, 1) := by decide +kernel
theorem k198_95 : decode (mB 198) 95 = .ok (.iload_n 3, 1) := by decide +kernel
theorem k198_96 : decode (mB 198) 96 = .ok (.iconst 2, 1) := by decide +kernel
theorem k198_97 : decode (mB 198) 97 = .ok (.iadd, 1) := by decide +kernel
theorem k198_98 : decode (mB 198) 98 = .ok (.iaload, 1) := by decide +kernel
theorem k198_99 : decode (mB 198) 99 = .ok (.ifCond .ne 8, 3) := by decide +kernel
theorem k198_102 : decode (mB 198) 102 = .ok (.ldc 53, 2) ∧ tK (mO 198) 53 = some (-1000000) := by decide +kernel
theorem k198_104 : decode (mB 198) 104 = .ok (.goto 11, 3) := by decide +kernel
theorem k198_107 : decode (mB 198) 107 = .ok (.aload_n 0, 1) := by decide +kernel
theorem k198_108 : decode (mB 198) 108 = .ok (.getfield 25, 3) ∧ tF (mO 198) 25 = some (11, 13, 1, 1) := by decide +kernel
theorem k198_111 : decode (mB 198) 111 = .ok (.iload_n 3, 1) := by decide +kernel
theorem k198_112 : decode (mB 198) 112 = .ok (.iconst 3, 1) := by decide +kernel
theorem k198_113 : decode (mB 198) 113 = .ok (.iadd, 1) := by decide +kernel
theorem k198_114 : decode (mB 198) 114 = .ok (.iaload, 1) := by decide +kernel
theorem k198_115 : decode (mB 198) 115 = .ok (.ireturn, 1) ∧ mR 198 = (some .int) := by decide +kernel
theorem k198_116 : decode (mB 198) 116 = .ok (.ldc 67, 2) ∧ tK (mO 198) 67 = some (-1000001) := by decide +kernel
theorem k198_118 : decode (mB 198) 118 = .ok (.ireturn, 1) ∧ mR 198 = (some .int) := by decide +kernel
-- 199: ChairPastModel.peace:()I, locals 1
theorem l199 : mL 199 = 1 := by decide +kernel
theorem k199_0 : decode (mB 199) 0 = .ok (.aload_n 0, 1) := by decide +kernel
theorem k199_1 : decode (mB 199) 1 = .ok (.invokevirtual 185, 3) ∧ tVn (mO 199) 185 = some 0 ∧ tV (mO 199) 185 11 = some 181 := by decide +kernel
theorem k199_4 : decode (mB 199) 4 = .ok (.ifCond .eq 13, 3) := by decide +kernel
theorem k199_7 : decode (mB 199) 7 = .ok (.aload_n 0, 1) := by decide +kernel
theorem k199_8 : decode (mB 199) 8 = .ok (.getfield 25, 3) ∧ tF (mO 199) 25 = some (11, 13, 1, 1) := by decide +kernel
theorem k199_11 : decode (mB 199) 11 = .ok (.invokestatic 181, 3) ∧ tM (mO 199) 181 = none ∧ tS (mO 199) 181 = some 189 := by decide +kernel
theorem k199_14 : decode (mB 199) 14 = .ok (.goto 5, 3) := by decide +kernel
theorem k199_17 : decode (mB 199) 17 = .ok (.ldc 173, 2) ∧ tK (mO 199) 173 = some (-1000002) := by decide +kernel
theorem k199_19 : decode (mB 199) 19 = .ok (.ireturn, 1) ∧ mR 199 = (some .int) := by decide +kernel
-- 200: ChairPastModel.would:(III)I, locals 5
theorem l200 : mL 200 = 5 := by decide +kernel
theorem k200_0 : decode (mB 200) 0 = .ok (.aload_n 0, 1) := by decide +kernel
theorem k200_1 : decode (mB 200) 1 = .ok (.iload_n 1, 1) := by decide +kernel
theorem k200_2 : decode (mB 200) 2 = .ok (.invokevirtual 167, 3) ∧ tVn (mO 200) 167 = some 1 ∧ tV (mO 200) 167 11 = some 183 := by decide +kernel
theorem k200_5 : decode (mB 200) 5 = .ok (.ifCond .eq 20, 3) := by decide +kernel
theorem k200_8 : decode (mB 200) 8 = .ok (.aload_n 0, 1) := by decide +kernel
theorem k200_9 : decode (mB 200) 9 = .ok (.iload_n 2, 1) := by decide +kernel
theorem k200_10 : decode (mB 200) 10 = .ok (.invokevirtual 170, 3) ∧ tVn (mO 200) 170 = some 1 ∧ tV (mO 200) 170 11 = some 182 := by decide +kernel
theorem k200_13 : decode (mB 200) 13 = .ok (.ifCond .eq 12, 3) := by decide +kernel
theorem k200_16 : decode (mB 200) 16 = .ok (.iload_n 3, 1) := by decide +kernel
theorem k200_17 : decode (mB 200) 17 = .ok (.iconst 0, 1) := by decide +kernel
theorem k200_18 : decode (mB 200) 18 = .ok (.iconst 2, 1) := by decide +kernel
theorem k200_19 : decode (mB 200) 19 = .ok (.invokestatic 59, 3) ∧ tM (mO 200) 59 = none ∧ tS (mO 200) 59 = some 155 := by decide +kernel
theorem k200_22 : decode (mB 200) 22 = .ok (.ifCond .ne 6, 3) := by decide +kernel
theorem k200_25 : decode (mB 200) 25 = .ok (.ldc 67, 2) ∧ tK (mO 200) 67 = some (-1000001) := by decide +kernel
theorem k200_27 : decode (mB 200) 27 = .ok (.ireturn, 1) ∧ mR 200 = (some .int) := by decide +kernel
theorem k200_28 : decode (mB 200) 28 = .ok (.aload_n 0, 1) := by decide +kernel
theorem k200_29 : decode (mB 200) 29 = .ok (.getfield 25, 3) ∧ tF (mO 200) 25 = some (11, 13, 1, 1) := by decide +kernel
theorem k200_32 : decode (mB 200) 32 = .ok (.iconst 0, 1) := by decide +kernel
theorem k200_33 : decode (mB 200) 33 = .ok (.aload_n 0, 1) := by decide +kernel
theorem k200_34 : decode (mB 200) 34 = .ok (.getfield 31, 3) ∧ tF (mO 200) 31 = some (11, 15, 1, 1) := by decide +kernel
theorem k200_37 : decode (mB 200) 37 = .ok (.iconst 0, 1) := by decide +kernel
theorem k200_38 : decode (mB 200) 38 = .ok (.invokestatic 141, 3) ∧ tM (mO 200) 141 = none ∧ tS (mO 200) 141 = some 159 := by decide +kernel
theorem k200_41 : decode (mB 200) 41 = .ok (.aload_n 0, 1) := by decide +kernel
theorem k200_42 : decode (mB 200) 42 = .ok (.getfield 31, 3) ∧ tF (mO 200) 31 = some (11, 15, 1, 1) := by decide +kernel
theorem k200_45 : decode (mB 200) 45 = .ok (.iload_n 1, 1) := by decide +kernel
theorem k200_46 : decode (mB 200) 46 = .ok (.iload_n 2, 1) := by decide +kernel
theorem k200_47 : decode (mB 200) 47 = .ok (.invokestatic 156, 3) ∧ tM (mO 200) 156 = none ∧ tS (mO 200) 156 = some 186 := by decide +kernel
theorem k200_50 : decode (mB 200) 50 = .ok (.istore 4, 2) := by decide +kernel
theorem k200_52 : decode (mB 200) 52 = .ok (.iload_n 3, 1) := by decide +kernel
theorem k200_53 : decode (mB 200) 53 = .ok (.ifCond .ne 8, 3) := by decide +kernel
theorem k200_56 : decode (mB 200) 56 = .ok (.iload 4, 2) := by decide +kernel
theorem k200_58 : decode (mB 200) 58 = .ok (.goto 15, 3) := by decide +kernel
theorem k200_61 : decode (mB 200) 61 = .ok (.aload_n 0, 1) := by decide +kernel
theorem k200_62 : decode (mB 200) 62 = .ok (.getfield 31, 3) ∧ tF (mO 200) 31 = some (11, 15, 1, 1) := by decide +kernel
theorem k200_65 : decode (mB 200) 65 = .ok (.iconst 3, 1) := by decide +kernel
theorem k200_66 : decode (mB 200) 66 = .ok (.iconst 5, 1) := by decide +kernel
theorem k200_67 : decode (mB 200) 67 = .ok (.iload_n 2, 1) := by decide +kernel
theorem k200_68 : decode (mB 200) 68 = .ok (.imul, 1) := by decide +kernel
theorem k200_69 : decode (mB 200) 69 = .ok (.iadd, 1) := by decide +kernel
theorem k200_70 : decode (mB 200) 70 = .ok (.iload_n 3, 1) := by decide +kernel
theorem k200_71 : decode (mB 200) 71 = .ok (.iadd, 1) := by decide +kernel
theorem k200_72 : decode (mB 200) 72 = .ok (.iaload, 1) := by decide +kernel
theorem k200_73 : decode (mB 200) 73 = .ok (.ireturn, 1) ∧ mR 200 = (some .int) := by decide +kernel
-- 201: ChairPastModel.counts:(II)Z, locals 4
theorem l201 : mL 201 = 4 := by decide +kernel
theorem k201_0 : decode (mB 201) 0 = .ok (.iload_n 1, 1) := by decide +kernel
theorem k201_1 : decode (mB 201) 1 = .ok (.iconst 1, 1) := by decide +kernel
theorem k201_2 : decode (mB 201) 2 = .ok (.isub, 1) := by decide +kernel
theorem k201_3 : decode (mB 201) 3 = .ok (.istore_n 3, 1) := by decide +kernel
theorem k201_4 : decode (mB 201) 4 = .ok (.iload_n 3, 1) := by decide +kernel
theorem k201_5 : decode (mB 201) 5 = .ok (.ifCond .lt 38, 3) := by decide +kernel
theorem k201_8 : decode (mB 201) 8 = .ok (.aload_n 0, 1) := by decide +kernel
theorem k201_9 : decode (mB 201) 9 = .ok (.getfield 44, 3) ∧ tF (mO 201) 44 = some (11, 20, 1, 1) := by decide +kernel
theorem k201_12 : decode (mB 201) 12 = .ok (.iload_n 3, 1) := by decide +kernel
theorem k201_13 : decode (mB 201) 13 = .ok (.dup2, 1) := by decide +kernel
theorem k201_14 : decode (mB 201) 14 = .ok (.iaload, 1) := by decide +kernel
theorem k201_15 : decode (mB 201) 15 = .ok (.iconst 1, 1) := by decide +kernel
theorem k201_16 : decode (mB 201) 16 = .ok (.iadd, 1) := by decide +kernel
theorem k201_17 : decode (mB 201) 17 = .ok (.iastore, 1) := by decide +kernel
theorem k201_18 : decode (mB 201) 18 = .ok (.aload_n 0, 1) := by decide +kernel
theorem k201_19 : decode (mB 201) 19 = .ok (.getfield 44, 3) ∧ tF (mO 201) 44 = some (11, 20, 1, 1) := by decide +kernel
theorem k201_22 : decode (mB 201) 22 = .ok (.iload_n 3, 1) := by decide +kernel
theorem k201_23 : decode (mB 201) 23 = .ok (.iaload, 1) := by decide +kernel
theorem k201_24 : decode (mB 201) 24 = .ok (.iload_n 2, 1) := by decide +kernel
theorem k201_25 : decode (mB 201) 25 = .ok (.if_icmp .ge 5, 3) := by decide +kernel
theorem k201_28 : decode (mB 201) 28 = .ok (.iconst 1, 1) := by decide +kernel
theorem k201_29 : decode (mB 201) 29 = .ok (.ireturn, 1) ∧ mR 201 = (some .boolean) := by decide +kernel
theorem k201_30 : decode (mB 201) 30 = .ok (.aload_n 0, 1) := by decide +kernel
theorem k201_31 : decode (mB 201) 31 = .ok (.getfield 44, 3) ∧ tF (mO 201) 44 = some (11, 20, 1, 1) := by decide +kernel
theorem k201_34 : decode (mB 201) 34 = .ok (.iload_n 3, 1) := by decide +kernel
theorem k201_35 : decode (mB 201) 35 = .ok (.iconst 0, 1) := by decide +kernel
theorem k201_36 : decode (mB 201) 36 = .ok (.iastore, 1) := by decide +kernel
theorem k201_37 : decode (mB 201) 37 = .ok (.iinc 3 (-1), 3) := by decide +kernel
theorem k201_40 : decode (mB 201) 40 = .ok (.goto (-36), 3) := by decide +kernel
theorem k201_43 : decode (mB 201) 43 = .ok (.iconst 0, 1) := by decide +kernel
theorem k201_44 : decode (mB 201) 44 = .ok (.ireturn, 1) ∧ mR 201 = (some .boolean) := by decide +kernel
-- 202: ChairPastModel.seats:()Z, locals 4
theorem l202 : mL 202 = 4 := by decide +kernel
theorem k202_0 : decode (mB 202) 0 = .ok (.aload_n 0, 1) := by decide +kernel
theorem k202_1 : decode (mB 202) 1 = .ok (.getfield 25, 3) ∧ tF (mO 202) 25 = some (11, 13, 1, 1) := by decide +kernel
theorem k202_4 : decode (mB 202) 4 = .ok (.iconst 0, 1) := by decide +kernel
theorem k202_5 : decode (mB 202) 5 = .ok (.aload_n 0, 1) := by decide +kernel
theorem k202_6 : decode (mB 202) 6 = .ok (.getfield 31, 3) ∧ tF (mO 202) 31 = some (11, 15, 1, 1) := by decide +kernel
theorem k202_9 : decode (mB 202) 9 = .ok (.iconst 0, 1) := by decide +kernel
theorem k202_10 : decode (mB 202) 10 = .ok (.invokestatic 141, 3) ∧ tM (mO 202) 141 = none ∧ tS (mO 202) 141 = some 159 := by decide +kernel
theorem k202_13 : decode (mB 202) 13 = .ok (.iconst 1, 1) := by decide +kernel
theorem k202_14 : decode (mB 202) 14 = .ok (.istore_n 1, 1) := by decide +kernel
theorem k202_15 : decode (mB 202) 15 = .ok (.iconst 0, 1) := by decide +kernel
theorem k202_16 : decode (mB 202) 16 = .ok (.istore_n 2, 1) := by decide +kernel
theorem k202_17 : decode (mB 202) 17 = .ok (.iload_n 2, 1) := by decide +kernel
theorem k202_18 : decode (mB 202) 18 = .ok (.aload_n 0, 1) := by decide +kernel
theorem k202_19 : decode (mB 202) 19 = .ok (.getfield 25, 3) ∧ tF (mO 202) 25 = some (11, 13, 1, 1) := by decide +kernel
theorem k202_22 : decode (mB 202) 22 = .ok (.iconst 2, 1) := by decide +kernel
theorem k202_23 : decode (mB 202) 23 = .ok (.iaload, 1) := by decide +kernel
theorem k202_24 : decode (mB 202) 24 = .ok (.if_icmp .ge 102, 3) := by decide +kernel
theorem k202_27 : decode (mB 202) 27 = .ok (.iload_n 1, 1) := by decide +kernel
theorem k202_28 : decode (mB 202) 28 = .ok (.ifCond .eq 98, 3) := by decide +kernel
theorem k202_31 : decode (mB 202) 31 = .ok (.aload_n 0, 1) := by decide +kernel
theorem k202_32 : decode (mB 202) 32 = .ok (.getfield 25, 3) ∧ tF (mO 202) 25 = some (11, 13, 1, 1) := by decide +kernel
theorem k202_35 : decode (mB 202) 35 = .ok (.bipush 28, 2) := by decide +kernel
theorem k202_37 : decode (mB 202) 37 = .ok (.iconst 4, 1) := by decide +kernel
theorem k202_38 : decode (mB 202) 38 = .ok (.iload_n 2, 1) := by decide +kernel
theorem k202_39 : decode (mB 202) 39 = .ok (.imul, 1) := by decide +kernel
theorem k202_40 : decode (mB 202) 40 = .ok (.iadd, 1) := by decide +kernel
theorem k202_41 : decode (mB 202) 41 = .ok (.iconst 2, 1) := by decide +kernel
theorem k202_42 : decode (mB 202) 42 = .ok (.iadd, 1) := by decide +kernel
theorem k202_43 : decode (mB 202) 43 = .ok (.iaload, 1) := by decide +kernel
theorem k202_44 : decode (mB 202) 44 = .ok (.ifCond .le 7, 3) := by decide +kernel
theorem k202_47 : decode (mB 202) 47 = .ok (.iconst 1, 1) := by decide +kernel
theorem k202_48 : decode (mB 202) 48 = .ok (.goto 4, 3) := by decide +kernel
theorem k202_51 : decode (mB 202) 51 = .ok (.iconst 0, 1) := by decide +kernel
theorem k202_52 : decode (mB 202) 52 = .ok (.istore_n 3, 1) := by decide +kernel
theorem k202_53 : decode (mB 202) 53 = .ok (.iload_n 3, 1) := by decide +kernel
theorem k202_54 : decode (mB 202) 54 = .ok (.ifCond .eq 20, 3) := by decide +kernel
theorem k202_57 : decode (mB 202) 57 = .ok (.aload_n 0, 1) := by decide +kernel
theorem k202_58 : decode (mB 202) 58 = .ok (.getfield 44, 3) ∧ tF (mO 202) 44 = some (11, 20, 1, 1) := by decide +kernel
theorem k202_61 : decode (mB 202) 61 = .ok (.iload_n 2, 1) := by decide +kernel
theorem k202_62 : decode (mB 202) 62 = .ok (.iaload, 1) := by decide +kernel
theorem k202_63 : decode (mB 202) 63 = .ok (.ifCond .ne 7, 3) := by decide +kernel
theorem k202_66 : decode (mB 202) 66 = .ok (.iconst 1, 1) := by decide +kernel
theorem k202_67 : decode (mB 202) 67 = .ok (.goto 30, 3) := by decide +kernel
theorem k202_70 : decode (mB 202) 70 = .ok (.iconst 0, 1) := by decide +kernel
theorem k202_71 : decode (mB 202) 71 = .ok (.goto 26, 3) := by decide +kernel
theorem k202_74 : decode (mB 202) 74 = .ok (.aload_n 0, 1) := by decide +kernel
theorem k202_75 : decode (mB 202) 75 = .ok (.getfield 31, 3) ∧ tF (mO 202) 31 = some (11, 15, 1, 1) := by decide +kernel
theorem k202_78 : decode (mB 202) 78 = .ok (.aload_n 0, 1) := by decide +kernel
theorem k202_79 : decode (mB 202) 79 = .ok (.getfield 44, 3) ∧ tF (mO 202) 44 = some (11, 20, 1, 1) := by decide +kernel
theorem k202_82 : decode (mB 202) 82 = .ok (.iload_n 2, 1) := by decide +kernel
theorem k202_83 : decode (mB 202) 83 = .ok (.iaload, 1) := by decide +kernel
theorem k202_84 : decode (mB 202) 84 = .ok (.invokestatic 159, 3) ∧ tM (mO 202) 159 = none ∧ tS (mO 202) 159 = some 187 := by decide +kernel
theorem k202_87 : decode (mB 202) 87 = .ok (.ldc 53, 2) ∧ tK (mO 202) 53 = some (-1000000) := by decide +kernel
theorem k202_89 : decode (mB 202) 89 = .ok (.if_icmp .ne 7, 3) := by decide +kernel
theorem k202_92 : decode (mB 202) 92 = .ok (.iconst 1, 1) := by decide +kernel
theorem k202_93 : decode (mB 202) 93 = .ok (.goto 4, 3) := by decide +kernel
theorem k202_96 : decode (mB 202) 96 = .ok (.iconst 0, 1) := by decide +kernel
theorem k202_97 : decode (mB 202) 97 = .ok (.istore_n 1, 1) := by decide +kernel
theorem k202_98 : decode (mB 202) 98 = .ok (.iload_n 1, 1) := by decide +kernel
theorem k202_99 : decode (mB 202) 99 = .ok (.ifCond .eq 21, 3) := by decide +kernel
theorem k202_102 : decode (mB 202) 102 = .ok (.iload_n 3, 1) := by decide +kernel
theorem k202_103 : decode (mB 202) 103 = .ok (.ifCond .ne 17, 3) := by decide +kernel
theorem k202_106 : decode (mB 202) 106 = .ok (.aload_n 0, 1) := by decide +kernel
theorem k202_107 : decode (mB 202) 107 = .ok (.getfield 31, 3) ∧ tF (mO 202) 31 = some (11, 15, 1, 1) := by decide +kernel
theorem k202_110 : decode (mB 202) 110 = .ok (.iload_n 2, 1) := by decide +kernel
theorem k202_111 : decode (mB 202) 111 = .ok (.aload_n 0, 1) := by decide +kernel
theorem k202_112 : decode (mB 202) 112 = .ok (.getfield 44, 3) ∧ tF (mO 202) 44 = some (11, 20, 1, 1) := by decide +kernel
theorem k202_115 : decode (mB 202) 115 = .ok (.iload_n 2, 1) := by decide +kernel
theorem k202_116 : decode (mB 202) 116 = .ok (.iaload, 1) := by decide +kernel
theorem k202_117 : decode (mB 202) 117 = .ok (.invokestatic 177, 3) ∧ tM (mO 202) 177 = none ∧ tS (mO 202) 177 = some 188 := by decide +kernel
theorem k202_120 : decode (mB 202) 120 = .ok (.iinc 2 1, 3) := by decide +kernel
theorem k202_123 : decode (mB 202) 123 = .ok (.goto (-106), 3) := by decide +kernel
theorem k202_126 : decode (mB 202) 126 = .ok (.iload_n 1, 1) := by decide +kernel
theorem k202_127 : decode (mB 202) 127 = .ok (.ireturn, 1) ∧ mR 202 = (some .boolean) := by decide +kernel
-- 203: ChairPastModel.seating:(I)I, locals 5
theorem l203 : mL 203 = 5 := by decide +kernel
theorem k203_0 : decode (mB 203) 0 = .ok (.aload_n 0, 1) := by decide +kernel
theorem k203_1 : decode (mB 203) 1 = .ok (.invokevirtual 185, 3) ∧ tVn (mO 203) 185 = some 0 ∧ tV (mO 203) 185 11 = some 181 := by decide +kernel
theorem k203_4 : decode (mB 203) 4 = .ok (.ifCond .ne 6, 3) := by decide +kernel
theorem k203_7 : decode (mB 203) 7 = .ok (.ldc 173, 2) ∧ tK (mO 203) 173 = some (-1000002) := by decide +kernel
theorem k203_9 : decode (mB 203) 9 = .ok (.ireturn, 1) ∧ mR 203 = (some .int) := by decide +kernel
theorem k203_10 : decode (mB 203) 10 = .ok (.iload_n 1, 1) := by decide +kernel
theorem k203_11 : decode (mB 203) 11 = .ok (.iconst (-1), 1) := by decide +kernel
theorem k203_12 : decode (mB 203) 12 = .ok (.iconst 4, 1) := by decide +kernel
theorem k203_13 : decode (mB 203) 13 = .ok (.invokestatic 59, 3) ∧ tM (mO 203) 59 = none ∧ tS (mO 203) 59 = some 155 := by decide +kernel
theorem k203_16 : decode (mB 203) 16 = .ok (.ifCond .ne 6, 3) := by decide +kernel
theorem k203_19 : decode (mB 203) 19 = .ok (.ldc 67, 2) ∧ tK (mO 203) 67 = some (-1000001) := by decide +kernel
theorem k203_21 : decode (mB 203) 21 = .ok (.ireturn, 1) ∧ mR 203 = (some .int) := by decide +kernel
theorem k203_22 : decode (mB 203) 22 = .ok (.iconst 0, 1) := by decide +kernel
theorem k203_23 : decode (mB 203) 23 = .ok (.istore_n 2, 1) := by decide +kernel
theorem k203_24 : decode (mB 203) 24 = .ok (.iload_n 2, 1) := by decide +kernel
theorem k203_25 : decode (mB 203) 25 = .ok (.iconst 5, 1) := by decide +kernel
theorem k203_26 : decode (mB 203) 26 = .ok (.if_icmp .ge 16, 3) := by decide +kernel
theorem k203_29 : decode (mB 203) 29 = .ok (.aload_n 0, 1) := by decide +kernel
theorem k203_30 : decode (mB 203) 30 = .ok (.getfield 44, 3) ∧ tF (mO 203) 44 = some (11, 20, 1, 1) := by decide +kernel
theorem k203_33 : decode (mB 203) 33 = .ok (.iload_n 2, 1) := by decide +kernel
theorem k203_34 : decode (mB 203) 34 = .ok (.iconst 0, 1) := by decide +kernel
theorem k203_35 : decode (mB 203) 35 = .ok (.iastore, 1) := by decide +kernel
theorem k203_36 : decode (mB 203) 36 = .ok (.iinc 2 1, 3) := by decide +kernel
theorem k203_39 : decode (mB 203) 39 = .ok (.goto (-15), 3) := by decide +kernel
theorem k203_42 : decode (mB 203) 42 = .ok (.ldc 53, 2) ∧ tK (mO 203) 53 = some (-1000000) := by decide +kernel
theorem k203_44 : decode (mB 203) 44 = .ok (.istore_n 2, 1) := by decide +kernel
theorem k203_45 : decode (mB 203) 45 = .ok (.iconst 1, 1) := by decide +kernel
theorem k203_46 : decode (mB 203) 46 = .ok (.istore_n 3, 1) := by decide +kernel
theorem k203_47 : decode (mB 203) 47 = .ok (.iload_n 3, 1) := by decide +kernel
theorem k203_48 : decode (mB 203) 48 = .ok (.ifCond .eq 92, 3) := by decide +kernel
theorem k203_51 : decode (mB 203) 51 = .ok (.aload_n 0, 1) := by decide +kernel
theorem k203_52 : decode (mB 203) 52 = .ok (.invokevirtual 188, 3) ∧ tVn (mO 203) 188 = some 0 ∧ tV (mO 203) 188 11 = some 202 := by decide +kernel
theorem k203_55 : decode (mB 203) 55 = .ok (.ifCond .eq 65, 3) := by decide +kernel
theorem k203_58 : decode (mB 203) 58 = .ok (.aload_n 0, 1) := by decide +kernel
theorem k203_59 : decode (mB 203) 59 = .ok (.getfield 31, 3) ∧ tF (mO 203) 31 = some (11, 15, 1, 1) := by decide +kernel
theorem k203_62 : decode (mB 203) 62 = .ok (.invokestatic 181, 3) ∧ tM (mO 203) 181 = none ∧ tS (mO 203) 181 = some 189 := by decide +kernel
theorem k203_65 : decode (mB 203) 65 = .ok (.iload_n 2, 1) := by decide +kernel
theorem k203_66 : decode (mB 203) 66 = .ok (.if_icmp .le 54, 3) := by decide +kernel
theorem k203_69 : decode (mB 203) 69 = .ok (.aload_n 0, 1) := by decide +kernel
theorem k203_70 : decode (mB 203) 70 = .ok (.getfield 31, 3) ∧ tF (mO 203) 31 = some (11, 15, 1, 1) := by decide +kernel
theorem k203_73 : decode (mB 203) 73 = .ok (.invokestatic 181, 3) ∧ tM (mO 203) 181 = none ∧ tS (mO 203) 181 = some 189 := by decide +kernel
theorem k203_76 : decode (mB 203) 76 = .ok (.istore_n 2, 1) := by decide +kernel
theorem k203_77 : decode (mB 203) 77 = .ok (.iconst 0, 1) := by decide +kernel
theorem k203_78 : decode (mB 203) 78 = .ok (.istore 4, 2) := by decide +kernel
theorem k203_80 : decode (mB 203) 80 = .ok (.iload 4, 2) := by decide +kernel
theorem k203_82 : decode (mB 203) 82 = .ok (.aload_n 0, 1) := by decide +kernel
theorem k203_83 : decode (mB 203) 83 = .ok (.getfield 25, 3) ∧ tF (mO 203) 25 = some (11, 13, 1, 1) := by decide +kernel
theorem k203_86 : decode (mB 203) 86 = .ok (.iconst 2, 1) := by decide +kernel
theorem k203_87 : decode (mB 203) 87 = .ok (.iaload, 1) := by decide +kernel
theorem k203_88 : decode (mB 203) 88 = .ok (.if_icmp .ge 32, 3) := by decide +kernel
theorem k203_91 : decode (mB 203) 91 = .ok (.aload_n 0, 1) := by decide +kernel
theorem k203_92 : decode (mB 203) 92 = .ok (.getfield 47, 3) ∧ tF (mO 203) 47 = some (11, 21, 1, 1) := by decide +kernel
theorem k203_95 : decode (mB 203) 95 = .ok (.iload 4, 2) := by decide +kernel
theorem k203_97 : decode (mB 203) 97 = .ok (.aload_n 0, 1) := by decide +kernel
theorem k203_98 : decode (mB 203) 98 = .ok (.getfield 31, 3) ∧ tF (mO 203) 31 = some (11, 15, 1, 1) := by decide +kernel
theorem k203_101 : decode (mB 203) 101 = .ok (.bipush 28, 2) := by decide +kernel
theorem k203_103 : decode (mB 203) 103 = .ok (.iconst 4, 1) := by decide +kernel
theorem k203_104 : decode (mB 203) 104 = .ok (.iload 4, 2) := by decide +kernel
theorem k203_106 : decode (mB 203) 106 = .ok (.imul, 1) := by decide +kernel
theorem k203_107 : decode (mB 203) 107 = .ok (.iadd, 1) := by decide +kernel
theorem k203_108 : decode (mB 203) 108 = .ok (.iconst 2, 1) := by decide +kernel
theorem k203_109 : decode (mB 203) 109 = .ok (.iadd, 1) := by decide +kernel
theorem k203_110 : decode (mB 203) 110 = .ok (.iaload, 1) := by decide +kernel
theorem k203_111 : decode (mB 203) 111 = .ok (.iconst 1, 1) := by decide +kernel
theorem k203_112 : decode (mB 203) 112 = .ok (.isub, 1) := by decide +kernel
theorem k203_113 : decode (mB 203) 113 = .ok (.iastore, 1) := by decide +kernel
theorem k203_114 : decode (mB 203) 114 = .ok (.iinc 4 1, 3) := by decide +kernel
theorem k203_117 : decode (mB 203) 117 = .ok (.goto (-37), 3) := by decide +kernel
theorem k203_120 : decode (mB 203) 120 = .ok (.aload_n 0, 1) := by decide +kernel
theorem k203_121 : decode (mB 203) 121 = .ok (.aload_n 0, 1) := by decide +kernel
theorem k203_122 : decode (mB 203) 122 = .ok (.getfield 25, 3) ∧ tF (mO 203) 25 = some (11, 13, 1, 1) := by decide +kernel
theorem k203_125 : decode (mB 203) 125 = .ok (.iconst 2, 1) := by decide +kernel
theorem k203_126 : decode (mB 203) 126 = .ok (.iaload, 1) := by decide +kernel
theorem k203_127 : decode (mB 203) 127 = .ok (.aload_n 0, 1) := by decide +kernel
theorem k203_128 : decode (mB 203) 128 = .ok (.getfield 25, 3) ∧ tF (mO 203) 25 = some (11, 13, 1, 1) := by decide +kernel
theorem k203_131 : decode (mB 203) 131 = .ok (.iconst 1, 1) := by decide +kernel
theorem k203_132 : decode (mB 203) 132 = .ok (.iaload, 1) := by decide +kernel
theorem k203_133 : decode (mB 203) 133 = .ok (.invokevirtual 191, 3) ∧ tVn (mO 203) 191 = some 2 ∧ tV (mO 203) 191 11 = some 201 := by decide +kernel
theorem k203_136 : decode (mB 203) 136 = .ok (.istore_n 3, 1) := by decide +kernel
theorem k203_137 : decode (mB 203) 137 = .ok (.goto (-90), 3) := by decide +kernel
theorem k203_140 : decode (mB 203) 140 = .ok (.iload_n 1, 1) := by decide +kernel
theorem k203_141 : decode (mB 203) 141 = .ok (.iconst (-1), 1) := by decide +kernel
theorem k203_142 : decode (mB 203) 142 = .ok (.if_icmp .eq 9, 3) := by decide +kernel
theorem k203_145 : decode (mB 203) 145 = .ok (.iload_n 2, 1) := by decide +kernel
theorem k203_146 : decode (mB 203) 146 = .ok (.ldc 53, 2) ∧ tK (mO 203) 53 = some (-1000000) := by decide +kernel
theorem k203_148 : decode (mB 203) 148 = .ok (.if_icmp .ne 7, 3) := by decide +kernel
theorem k203_151 : decode (mB 203) 151 = .ok (.iload_n 2, 1) := by decide +kernel
theorem k203_152 : decode (mB 203) 152 = .ok (.goto 22, 3) := by decide +kernel
theorem k203_155 : decode (mB 203) 155 = .ok (.aload_n 0, 1) := by decide +kernel
theorem k203_156 : decode (mB 203) 156 = .ok (.iload_n 1, 1) := by decide +kernel
theorem k203_157 : decode (mB 203) 157 = .ok (.invokevirtual 167, 3) ∧ tVn (mO 203) 167 = some 1 ∧ tV (mO 203) 167 11 = some 183 := by decide +kernel
theorem k203_160 : decode (mB 203) 160 = .ok (.ifCond .eq 12, 3) := by decide +kernel
theorem k203_163 : decode (mB 203) 163 = .ok (.aload_n 0, 1) := by decide +kernel
theorem k203_164 : decode (mB 203) 164 = .ok (.getfield 47, 3) ∧ tF (mO 203) 47 = some (11, 21, 1, 1) := by decide +kernel
theorem k203_167 : decode (mB 203) 167 = .ok (.iload_n 1, 1) := by decide +kernel
theorem k203_168 : decode (mB 203) 168 = .ok (.iaload, 1) := by decide +kernel
theorem k203_169 : decode (mB 203) 169 = .ok (.goto 5, 3) := by decide +kernel
theorem k203_172 : decode (mB 203) 172 = .ok (.ldc 53, 2) ∧ tK (mO 203) 53 = some (-1000000) := by decide +kernel
theorem k203_174 : decode (mB 203) 174 = .ok (.ireturn, 1) ∧ mR 203 = (some .int) := by decide +kernel
-- 204: ChairPastModel.warm:(IIII)I, locals 8
theorem l204 : mL 204 = 8 := by decide +kernel
theorem k204_0 : decode (mB 204) 0 = .ok (.aload_n 0, 1) := by decide +kernel
theorem k204_1 : decode (mB 204) 1 = .ok (.iload_n 1, 1) := by decide +kernel
theorem k204_2 : decode (mB 204) 2 = .ok (.invokevirtual 167, 3) ∧ tVn (mO 204) 167 = some 1 ∧ tV (mO 204) 167 11 = some 183 := by decide +kernel
theorem k204_5 : decode (mB 204) 5 = .ok (.ifCond .eq 31, 3) := by decide +kernel
theorem k204_8 : decode (mB 204) 8 = .ok (.aload_n 0, 1) := by decide +kernel
theorem k204_9 : decode (mB 204) 9 = .ok (.iload_n 2, 1) := by decide +kernel
theorem k204_10 : decode (mB 204) 10 = .ok (.invokevirtual 170, 3) ∧ tVn (mO 204) 170 = some 1 ∧ tV (mO 204) 170 11 = some 182 := by decide +kernel
theorem k204_13 : decode (mB 204) 13 = .ok (.ifCond .eq 23, 3) := by decide +kernel
theorem k204_16 : decode (mB 204) 16 = .ok (.iload_n 3, 1) := by decide +kernel
theorem k204_17 : decode (mB 204) 17 = .ok (.iconst 0, 1) := by decide +kernel
theorem k204_18 : decode (mB 204) 18 = .ok (.bipush 9, 2) := by decide +kernel
theorem k204_20 : decode (mB 204) 20 = .ok (.invokestatic 59, 3) ∧ tM (mO 204) 59 = none ∧ tS (mO 204) 59 = some 155 := by decide +kernel
theorem k204_23 : decode (mB 204) 23 = .ok (.ifCond .eq 13, 3) := by decide +kernel
theorem k204_26 : decode (mB 204) 26 = .ok (.iload 4, 2) := by decide +kernel
theorem k204_28 : decode (mB 204) 28 = .ok (.iconst (-1), 1) := by decide +kernel
theorem k204_29 : decode (mB 204) 29 = .ok (.iconst 2, 1) := by decide +kernel
theorem k204_30 : decode (mB 204) 30 = .ok (.invokestatic 59, 3) ∧ tM (mO 204) 59 = none ∧ tS (mO 204) 59 = some 155 := by decide +kernel
theorem k204_33 : decode (mB 204) 33 = .ok (.ifCond .ne 6, 3) := by decide +kernel
theorem k204_36 : decode (mB 204) 36 = .ok (.ldc 67, 2) ∧ tK (mO 204) 67 = some (-1000001) := by decide +kernel
theorem k204_38 : decode (mB 204) 38 = .ok (.ireturn, 1) ∧ mR 204 = (some .int) := by decide +kernel
theorem k204_39 : decode (mB 204) 39 = .ok (.iconst 0, 1) := by decide +kernel
theorem k204_40 : decode (mB 204) 40 = .ok (.istore 5, 2) := by decide +kernel
theorem k204_42 : decode (mB 204) 42 = .ok (.iload 5, 2) := by decide +kernel
theorem k204_44 : decode (mB 204) 44 = .ok (.iconst 4, 1) := by decide +kernel
theorem k204_45 : decode (mB 204) 45 = .ok (.if_icmp .ge 156, 3) := by decide +kernel
theorem k204_48 : decode (mB 204) 48 = .ok (.iconst 0, 1) := by decide +kernel
theorem k204_49 : decode (mB 204) 49 = .ok (.istore 6, 2) := by decide +kernel
theorem k204_51 : decode (mB 204) 51 = .ok (.iload 6, 2) := by decide +kernel
theorem k204_53 : decode (mB 204) 53 = .ok (.iconst 5, 1) := by decide +kernel
theorem k204_54 : decode (mB 204) 54 = .ok (.if_icmp .ge 17, 3) := by decide +kernel
theorem k204_57 : decode (mB 204) 57 = .ok (.aload_n 0, 1) := by decide +kernel
theorem k204_58 : decode (mB 204) 58 = .ok (.getfield 44, 3) ∧ tF (mO 204) 44 = some (11, 20, 1, 1) := by decide +kernel
theorem k204_61 : decode (mB 204) 61 = .ok (.iload 6, 2) := by decide +kernel
theorem k204_63 : decode (mB 204) 63 = .ok (.iconst 0, 1) := by decide +kernel
theorem k204_64 : decode (mB 204) 64 = .ok (.iastore, 1) := by decide +kernel
theorem k204_65 : decode (mB 204) 65 = .ok (.iinc 6 1, 3) := by decide +kernel
theorem k204_68 : decode (mB 204) 68 = .ok (.goto (-17), 3) := by decide +kernel
theorem k204_71 : decode (mB 204) 71 = .ok (.iconst 1, 1) := by decide +kernel
theorem k204_72 : decode (mB 204) 72 = .ok (.istore 6, 2) := by decide +kernel
theorem k204_74 : decode (mB 204) 74 = .ok (.iload 6, 2) := by decide +kernel
theorem k204_76 : decode (mB 204) 76 = .ok (.ifCond .eq 119, 3) := by decide +kernel
theorem k204_79 : decode (mB 204) 79 = .ok (.aload_n 0, 1) := by decide +kernel
theorem k204_80 : decode (mB 204) 80 = .ok (.getfield 25, 3) ∧ tF (mO 204) 25 = some (11, 13, 1, 1) := by decide +kernel
theorem k204_83 : decode (mB 204) 83 = .ok (.iconst 0, 1) := by decide +kernel
theorem k204_84 : decode (mB 204) 84 = .ok (.aload_n 0, 1) := by decide +kernel
theorem k204_85 : decode (mB 204) 85 = .ok (.getfield 31, 3) ∧ tF (mO 204) 31 = some (11, 15, 1, 1) := by decide +kernel
theorem k204_88 : decode (mB 204) 88 = .ok (.iconst 0, 1) := by decide +kernel
theorem k204_89 : decode (mB 204) 89 = .ok (.invokestatic 141, 3) ∧ tM (mO 204) 141 = none ∧ tS (mO 204) 141 = some 159 := by decide +kernel
theorem k204_92 : decode (mB 204) 92 = .ok (.iconst 0, 1) := by decide +kernel
theorem k204_93 : decode (mB 204) 93 = .ok (.istore 7, 2) := by decide +kernel
theorem k204_95 : decode (mB 204) 95 = .ok (.iload 7, 2) := by decide +kernel
theorem k204_97 : decode (mB 204) 97 = .ok (.iload 5, 2) := by decide +kernel
theorem k204_99 : decode (mB 204) 99 = .ok (.if_icmp .ge 25, 3) := by decide +kernel
theorem k204_102 : decode (mB 204) 102 = .ok (.aload_n 0, 1) := by decide +kernel
theorem k204_103 : decode (mB 204) 103 = .ok (.getfield 31, 3) ∧ tF (mO 204) 31 = some (11, 15, 1, 1) := by decide +kernel
theorem k204_106 : decode (mB 204) 106 = .ok (.aload_n 0, 1) := by decide +kernel
theorem k204_107 : decode (mB 204) 107 = .ok (.getfield 44, 3) ∧ tF (mO 204) 44 = some (11, 20, 1, 1) := by decide +kernel
theorem k204_110 : decode (mB 204) 110 = .ok (.iload 7, 2) := by decide +kernel
theorem k204_112 : decode (mB 204) 112 = .ok (.iaload, 1) := by decide +kernel
theorem k204_113 : decode (mB 204) 113 = .ok (.iload_n 2, 1) := by decide +kernel
theorem k204_114 : decode (mB 204) 114 = .ok (.invokestatic 156, 3) ∧ tM (mO 204) 156 = none ∧ tS (mO 204) 156 = some 186 := by decide +kernel
theorem k204_117 : decode (mB 204) 117 = .ok (.pop, 1) := by decide +kernel
theorem k204_118 : decode (mB 204) 118 = .ok (.iinc 7 1, 3) := by decide +kernel
theorem k204_121 : decode (mB 204) 121 = .ok (.goto (-26), 3) := by decide +kernel
theorem k204_124 : decode (mB 204) 124 = .ok (.aload_n 0, 1) := by decide +kernel
theorem k204_125 : decode (mB 204) 125 = .ok (.getfield 31, 3) ∧ tF (mO 204) 31 = some (11, 15, 1, 1) := by decide +kernel
theorem k204_128 : decode (mB 204) 128 = .ok (.iload_n 2, 1) := by decide +kernel
theorem k204_129 : decode (mB 204) 129 = .ok (.aload_n 0, 1) := by decide +kernel
theorem k204_130 : decode (mB 204) 130 = .ok (.getfield 25, 3) ∧ tF (mO 204) 25 = some (11, 13, 1, 1) := by decide +kernel
theorem k204_133 : decode (mB 204) 133 = .ok (.bipush 28, 2) := by decide +kernel
theorem k204_135 : decode (mB 204) 135 = .ok (.iconst 4, 1) := by decide +kernel
theorem k204_136 : decode (mB 204) 136 = .ok (.iload_n 1, 1) := by decide +kernel
theorem k204_137 : decode (mB 204) 137 = .ok (.imul, 1) := by decide +kernel
theorem k204_138 : decode (mB 204) 138 = .ok (.iadd, 1) := by decide +kernel
theorem k204_139 : decode (mB 204) 139 = .ok (.iaload, 1) := by decide +kernel
theorem k204_140 : decode (mB 204) 140 = .ok (.invokestatic 152, 3) ∧ tM (mO 204) 152 = none ∧ tS (mO 204) 152 = some 185 := by decide +kernel
theorem k204_143 : decode (mB 204) 143 = .ok (.iload_n 3, 1) := by decide +kernel
theorem k204_144 : decode (mB 204) 144 = .ok (.if_icmp .ne 34, 3) := by decide +kernel
theorem k204_147 : decode (mB 204) 147 = .ok (.iload 4, 2) := by decide +kernel
theorem k204_149 : decode (mB 204) 149 = .ok (.iconst (-1), 1) := by decide +kernel
theorem k204_150 : decode (mB 204) 150 = .ok (.if_icmp .ne 8, 3) := by decide +kernel
theorem k204_153 : decode (mB 204) 153 = .ok (.iload 5, 2) := by decide +kernel
theorem k204_155 : decode (mB 204) 155 = .ok (.goto 22, 3) := by decide +kernel
theorem k204_158 : decode (mB 204) 158 = .ok (.iload 4, 2) := by decide +kernel
theorem k204_160 : decode (mB 204) 160 = .ok (.iload 5, 2) := by decide +kernel
theorem k204_162 : decode (mB 204) 162 = .ok (.if_icmp .ge 13, 3) := by decide +kernel
theorem k204_165 : decode (mB 204) 165 = .ok (.aload_n 0, 1) := by decide +kernel
theorem k204_166 : decode (mB 204) 166 = .ok (.getfield 44, 3) ∧ tF (mO 204) 44 = some (11, 20, 1, 1) := by decide +kernel
theorem k204_169 : decode (mB 204) 169 = .ok (.iload 4, 2) := by decide +kernel
theorem k204_171 : decode (mB 204) 171 = .ok (.iaload, 1) := by decide +kernel
theorem k204_172 : decode (mB 204) 172 = .ok (.goto 5, 3) := by decide +kernel
theorem k204_175 : decode (mB 204) 175 = .ok (.ldc 53, 2) ∧ tK (mO 204) 53 = some (-1000000) := by decide +kernel
theorem k204_177 : decode (mB 204) 177 = .ok (.ireturn, 1) ∧ mR 204 = (some .int) := by decide +kernel
theorem k204_178 : decode (mB 204) 178 = .ok (.aload_n 0, 1) := by decide +kernel
theorem k204_179 : decode (mB 204) 179 = .ok (.iload 5, 2) := by decide +kernel
theorem k204_181 : decode (mB 204) 181 = .ok (.aload_n 0, 1) := by decide +kernel
theorem k204_182 : decode (mB 204) 182 = .ok (.getfield 25, 3) ∧ tF (mO 204) 25 = some (11, 13, 1, 1) := by decide +kernel
theorem k204_185 : decode (mB 204) 185 = .ok (.iconst 2, 1) := by decide +kernel
theorem k204_186 : decode (mB 204) 186 = .ok (.iaload, 1) := by decide +kernel
theorem k204_187 : decode (mB 204) 187 = .ok (.invokevirtual 191, 3) ∧ tVn (mO 204) 191 = some 2 ∧ tV (mO 204) 191 11 = some 201 := by decide +kernel
theorem k204_190 : decode (mB 204) 190 = .ok (.istore 6, 2) := by decide +kernel
theorem k204_192 : decode (mB 204) 192 = .ok (.goto (-118), 3) := by decide +kernel
theorem k204_195 : decode (mB 204) 195 = .ok (.iinc 5 1, 3) := by decide +kernel
theorem k204_198 : decode (mB 204) 198 = .ok (.goto (-156), 3) := by decide +kernel
theorem k204_201 : decode (mB 204) 201 = .ok (.ldc 53, 2) ∧ tK (mO 204) 53 = some (-1000000) := by decide +kernel
theorem k204_203 : decode (mB 204) 203 = .ok (.ireturn, 1) ∧ mR 204 = (some .int) := by decide +kernel
-- 205: ChairPastModel.pure:(II)I, locals 5
theorem l205 : mL 205 = 5 := by decide +kernel
theorem k205_0 : decode (mB 205) 0 = .ok (.aload_n 0, 1) := by decide +kernel
theorem k205_1 : decode (mB 205) 1 = .ok (.iload_n 1, 1) := by decide +kernel
theorem k205_2 : decode (mB 205) 2 = .ok (.invokevirtual 167, 3) ∧ tVn (mO 205) 167 = some 1 ∧ tV (mO 205) 167 11 = some 183 := by decide +kernel
theorem k205_5 : decode (mB 205) 5 = .ok (.ifCond .eq 11, 3) := by decide +kernel
theorem k205_8 : decode (mB 205) 8 = .ok (.aload_n 0, 1) := by decide +kernel
theorem k205_9 : decode (mB 205) 9 = .ok (.iload_n 2, 1) := by decide +kernel
theorem k205_10 : decode (mB 205) 10 = .ok (.invokevirtual 170, 3) ∧ tVn (mO 205) 170 = some 1 ∧ tV (mO 205) 170 11 = some 182 := by decide +kernel
theorem k205_13 : decode (mB 205) 13 = .ok (.ifCond .ne 6, 3) := by decide +kernel
theorem k205_16 : decode (mB 205) 16 = .ok (.ldc 67, 2) ∧ tK (mO 205) 67 = some (-1000001) := by decide +kernel
theorem k205_18 : decode (mB 205) 18 = .ok (.ireturn, 1) ∧ mR 205 = (some .int) := by decide +kernel
theorem k205_19 : decode (mB 205) 19 = .ok (.aload_n 0, 1) := by decide +kernel
theorem k205_20 : decode (mB 205) 20 = .ok (.getfield 25, 3) ∧ tF (mO 205) 25 = some (11, 13, 1, 1) := by decide +kernel
theorem k205_23 : decode (mB 205) 23 = .ok (.iconst 0, 1) := by decide +kernel
theorem k205_24 : decode (mB 205) 24 = .ok (.aload_n 0, 1) := by decide +kernel
theorem k205_25 : decode (mB 205) 25 = .ok (.getfield 31, 3) ∧ tF (mO 205) 31 = some (11, 15, 1, 1) := by decide +kernel
theorem k205_28 : decode (mB 205) 28 = .ok (.iconst 0, 1) := by decide +kernel
theorem k205_29 : decode (mB 205) 29 = .ok (.invokestatic 141, 3) ∧ tM (mO 205) 141 = none ∧ tS (mO 205) 141 = some 159 := by decide +kernel
theorem k205_32 : decode (mB 205) 32 = .ok (.aload_n 0, 1) := by decide +kernel
theorem k205_33 : decode (mB 205) 33 = .ok (.getfield 25, 3) ∧ tF (mO 205) 25 = some (11, 13, 1, 1) := by decide +kernel
theorem k205_36 : decode (mB 205) 36 = .ok (.bipush 28, 2) := by decide +kernel
theorem k205_38 : decode (mB 205) 38 = .ok (.iconst 4, 1) := by decide +kernel
theorem k205_39 : decode (mB 205) 39 = .ok (.iload_n 1, 1) := by decide +kernel
theorem k205_40 : decode (mB 205) 40 = .ok (.imul, 1) := by decide +kernel
theorem k205_41 : decode (mB 205) 41 = .ok (.iadd, 1) := by decide +kernel
theorem k205_42 : decode (mB 205) 42 = .ok (.iaload, 1) := by decide +kernel
theorem k205_43 : decode (mB 205) 43 = .ok (.istore_n 3, 1) := by decide +kernel
theorem k205_44 : decode (mB 205) 44 = .ok (.iconst 0, 1) := by decide +kernel
theorem k205_45 : decode (mB 205) 45 = .ok (.istore 4, 2) := by decide +kernel
theorem k205_47 : decode (mB 205) 47 = .ok (.iload 4, 2) := by decide +kernel
theorem k205_49 : decode (mB 205) 49 = .ok (.bipush 21, 2) := by decide +kernel
theorem k205_51 : decode (mB 205) 51 = .ok (.if_icmp .ge 35, 3) := by decide +kernel
theorem k205_54 : decode (mB 205) 54 = .ok (.aload_n 0, 1) := by decide +kernel
theorem k205_55 : decode (mB 205) 55 = .ok (.getfield 31, 3) ∧ tF (mO 205) 31 = some (11, 15, 1, 1) := by decide +kernel
theorem k205_58 : decode (mB 205) 58 = .ok (.iload_n 2, 1) := by decide +kernel
theorem k205_59 : decode (mB 205) 59 = .ok (.iload_n 3, 1) := by decide +kernel
theorem k205_60 : decode (mB 205) 60 = .ok (.invokestatic 152, 3) ∧ tM (mO 205) 152 = none ∧ tS (mO 205) 152 = some 185 := by decide +kernel
theorem k205_63 : decode (mB 205) 63 = .ok (.iload_n 3, 1) := by decide +kernel
theorem k205_64 : decode (mB 205) 64 = .ok (.if_icmp .ne 6, 3) := by decide +kernel
theorem k205_67 : decode (mB 205) 67 = .ok (.iload 4, 2) := by decide +kernel
theorem k205_69 : decode (mB 205) 69 = .ok (.ireturn, 1) ∧ mR 205 = (some .int) := by decide +kernel
theorem k205_70 : decode (mB 205) 70 = .ok (.aload_n 0, 1) := by decide +kernel
theorem k205_71 : decode (mB 205) 71 = .ok (.getfield 31, 3) ∧ tF (mO 205) 31 = some (11, 15, 1, 1) := by decide +kernel
theorem k205_74 : decode (mB 205) 74 = .ok (.iload_n 1, 1) := by decide +kernel
theorem k205_75 : decode (mB 205) 75 = .ok (.iload_n 2, 1) := by decide +kernel
theorem k205_76 : decode (mB 205) 76 = .ok (.invokestatic 156, 3) ∧ tM (mO 205) 156 = none ∧ tS (mO 205) 156 = some 186 := by decide +kernel
theorem k205_79 : decode (mB 205) 79 = .ok (.pop, 1) := by decide +kernel
theorem k205_80 : decode (mB 205) 80 = .ok (.iinc 4 1, 3) := by decide +kernel
theorem k205_83 : decode (mB 205) 83 = .ok (.goto (-36), 3) := by decide +kernel
theorem k205_86 : decode (mB 205) 86 = .ok (.ldc 53, 2) ∧ tK (mO 205) 53 = some (-1000000) := by decide +kernel
theorem k205_88 : decode (mB 205) 88 = .ok (.ireturn, 1) ∧ mR 205 = (some .int) := by decide +kernel
-- 206: ChairPastModel.isLeft:(III)Z, locals 4
theorem l206 : mL 206 = 4 := by decide +kernel
theorem k206_0 : decode (mB 206) 0 = .ok (.aload_n 0, 1) := by decide +kernel
theorem k206_1 : decode (mB 206) 1 = .ok (.getfield 31, 3) ∧ tF (mO 206) 31 = some (11, 15, 1, 1) := by decide +kernel
theorem k206_4 : decode (mB 206) 4 = .ok (.iconst 3, 1) := by decide +kernel
theorem k206_5 : decode (mB 206) 5 = .ok (.iconst 5, 1) := by decide +kernel
theorem k206_6 : decode (mB 206) 6 = .ok (.iload_n 1, 1) := by decide +kernel
theorem k206_7 : decode (mB 206) 7 = .ok (.imul, 1) := by decide +kernel
theorem k206_8 : decode (mB 206) 8 = .ok (.iadd, 1) := by decide +kernel
theorem k206_9 : decode (mB 206) 9 = .ok (.iconst 1, 1) := by decide +kernel
theorem k206_10 : decode (mB 206) 10 = .ok (.iadd, 1) := by decide +kernel
theorem k206_11 : decode (mB 206) 11 = .ok (.iaload, 1) := by decide +kernel
theorem k206_12 : decode (mB 206) 12 = .ok (.iload_n 2, 1) := by decide +kernel
theorem k206_13 : decode (mB 206) 13 = .ok (.if_icmp .ne 23, 3) := by decide +kernel
theorem k206_16 : decode (mB 206) 16 = .ok (.aload_n 0, 1) := by decide +kernel
theorem k206_17 : decode (mB 206) 17 = .ok (.getfield 31, 3) ∧ tF (mO 206) 31 = some (11, 15, 1, 1) := by decide +kernel
theorem k206_20 : decode (mB 206) 20 = .ok (.iconst 3, 1) := by decide +kernel
theorem k206_21 : decode (mB 206) 21 = .ok (.iconst 5, 1) := by decide +kernel
theorem k206_22 : decode (mB 206) 22 = .ok (.iload_n 1, 1) := by decide +kernel
theorem k206_23 : decode (mB 206) 23 = .ok (.imul, 1) := by decide +kernel
theorem k206_24 : decode (mB 206) 24 = .ok (.iadd, 1) := by decide +kernel
theorem k206_25 : decode (mB 206) 25 = .ok (.iconst 2, 1) := by decide +kernel
theorem k206_26 : decode (mB 206) 26 = .ok (.iadd, 1) := by decide +kernel
theorem k206_27 : decode (mB 206) 27 = .ok (.iaload, 1) := by decide +kernel
theorem k206_28 : decode (mB 206) 28 = .ok (.iload_n 3, 1) := by decide +kernel
theorem k206_29 : decode (mB 206) 29 = .ok (.if_icmp .ne 7, 3) := by decide +kernel
theorem k206_32 : decode (mB 206) 32 = .ok (.iconst 1, 1) := by decide +kernel
theorem k206_33 : decode (mB 206) 33 = .ok (.goto 4, 3) := by decide +kernel
theorem k206_36 : decode (mB 206) 36 = .ok (.iconst 0, 1) := by decide +kernel
theorem k206_37 : decode (mB 206) 37 = .ok (.ireturn, 1) ∧ mR 206 = (some .boolean) := by decide +kernel
-- 207: ChairPastModel.between:(IIII)I, locals 9
theorem l207 : mL 207 = 9 := by decide +kernel
theorem k207_0 : decode (mB 207) 0 = .ok (.aload_n 0, 1) := by decide +kernel
theorem k207_1 : decode (mB 207) 1 = .ok (.iload_n 1, 1) := by decide +kernel
theorem k207_2 : decode (mB 207) 2 = .ok (.invokevirtual 170, 3) ∧ tVn (mO 207) 170 = some 1 ∧ tV (mO 207) 170 11 = some 182 := by decide +kernel
theorem k207_5 : decode (mB 207) 5 = .ok (.ifCond .eq 33, 3) := by decide +kernel
theorem k207_8 : decode (mB 207) 8 = .ok (.iload_n 2, 1) := by decide +kernel
theorem k207_9 : decode (mB 207) 9 = .ok (.iconst 0, 1) := by decide +kernel
theorem k207_10 : decode (mB 207) 10 = .ok (.bipush 9, 2) := by decide +kernel
theorem k207_12 : decode (mB 207) 12 = .ok (.invokestatic 59, 3) ∧ tM (mO 207) 59 = none ∧ tS (mO 207) 59 = some 155 := by decide +kernel
theorem k207_15 : decode (mB 207) 15 = .ok (.ifCond .eq 23, 3) := by decide +kernel
theorem k207_18 : decode (mB 207) 18 = .ok (.iload_n 3, 1) := by decide +kernel
theorem k207_19 : decode (mB 207) 19 = .ok (.iconst 0, 1) := by decide +kernel
theorem k207_20 : decode (mB 207) 20 = .ok (.bipush 16, 2) := by decide +kernel
theorem k207_22 : decode (mB 207) 22 = .ok (.invokestatic 59, 3) ∧ tM (mO 207) 59 = none ∧ tS (mO 207) 59 = some 155 := by decide +kernel
theorem k207_25 : decode (mB 207) 25 = .ok (.ifCond .eq 13, 3) := by decide +kernel
theorem k207_28 : decode (mB 207) 28 = .ok (.iload 4, 2) := by decide +kernel
theorem k207_30 : decode (mB 207) 30 = .ok (.iconst 0, 1) := by decide +kernel
theorem k207_31 : decode (mB 207) 31 = .ok (.iconst 1, 1) := by decide +kernel
theorem k207_32 : decode (mB 207) 32 = .ok (.invokestatic 59, 3) ∧ tM (mO 207) 59 = none ∧ tS (mO 207) 59 = some 155 := by decide +kernel
theorem k207_35 : decode (mB 207) 35 = .ok (.ifCond .ne 6, 3) := by decide +kernel
theorem k207_38 : decode (mB 207) 38 = .ok (.ldc 67, 2) ∧ tK (mO 207) 67 = some (-1000001) := by decide +kernel
theorem k207_40 : decode (mB 207) 40 = .ok (.ireturn, 1) ∧ mR 207 = (some .int) := by decide +kernel
theorem k207_41 : decode (mB 207) 41 = .ok (.iconst 0, 1) := by decide +kernel
theorem k207_42 : decode (mB 207) 42 = .ok (.istore 5, 2) := by decide +kernel
theorem k207_44 : decode (mB 207) 44 = .ok (.iconst 0, 1) := by decide +kernel
theorem k207_45 : decode (mB 207) 45 = .ok (.istore 6, 2) := by decide +kernel
theorem k207_47 : decode (mB 207) 47 = .ok (.iconst 0, 1) := by decide +kernel
theorem k207_48 : decode (mB 207) 48 = .ok (.istore 7, 2) := by decide +kernel
theorem k207_50 : decode (mB 207) 50 = .ok (.iload 7, 2) := by decide +kernel
theorem k207_52 : decode (mB 207) 52 = .ok (.aload_n 0, 1) := by decide +kernel
theorem k207_53 : decode (mB 207) 53 = .ok (.getfield 25, 3) ∧ tF (mO 207) 25 = some (11, 13, 1, 1) := by decide +kernel
theorem k207_56 : decode (mB 207) 56 = .ok (.iconst 2, 1) := by decide +kernel
theorem k207_57 : decode (mB 207) 57 = .ok (.iaload, 1) := by decide +kernel
theorem k207_58 : decode (mB 207) 58 = .ok (.if_icmp .ge 131, 3) := by decide +kernel
theorem k207_61 : decode (mB 207) 61 = .ok (.aload_n 0, 1) := by decide +kernel
theorem k207_62 : decode (mB 207) 62 = .ok (.getfield 25, 3) ∧ tF (mO 207) 25 = some (11, 13, 1, 1) := by decide +kernel
theorem k207_65 : decode (mB 207) 65 = .ok (.iconst 0, 1) := by decide +kernel
theorem k207_66 : decode (mB 207) 66 = .ok (.aload_n 0, 1) := by decide +kernel
theorem k207_67 : decode (mB 207) 67 = .ok (.getfield 31, 3) ∧ tF (mO 207) 31 = some (11, 15, 1, 1) := by decide +kernel
theorem k207_70 : decode (mB 207) 70 = .ok (.iconst 0, 1) := by decide +kernel
theorem k207_71 : decode (mB 207) 71 = .ok (.invokestatic 141, 3) ∧ tM (mO 207) 141 = none ∧ tS (mO 207) 141 = some 159 := by decide +kernel
theorem k207_74 : decode (mB 207) 74 = .ok (.aload_n 0, 1) := by decide +kernel
theorem k207_75 : decode (mB 207) 75 = .ok (.getfield 31, 3) ∧ tF (mO 207) 31 = some (11, 15, 1, 1) := by decide +kernel
theorem k207_78 : decode (mB 207) 78 = .ok (.iload 7, 2) := by decide +kernel
theorem k207_80 : decode (mB 207) 80 = .ok (.iload_n 1, 1) := by decide +kernel
theorem k207_81 : decode (mB 207) 81 = .ok (.invokestatic 156, 3) ∧ tM (mO 207) 156 = none ∧ tS (mO 207) 156 = some 186 := by decide +kernel
theorem k207_84 : decode (mB 207) 84 = .ok (.pop, 1) := by decide +kernel
theorem k207_85 : decode (mB 207) 85 = .ok (.iload 5, 2) := by decide +kernel
theorem k207_87 : decode (mB 207) 87 = .ok (.aload_n 0, 1) := by decide +kernel
theorem k207_88 : decode (mB 207) 88 = .ok (.iload_n 1, 1) := by decide +kernel
theorem k207_89 : decode (mB 207) 89 = .ok (.iload_n 2, 1) := by decide +kernel
theorem k207_90 : decode (mB 207) 90 = .ok (.iload_n 3, 1) := by decide +kernel
theorem k207_91 : decode (mB 207) 91 = .ok (.invokevirtual 195, 3) ∧ tVn (mO 207) 195 = some 3 ∧ tV (mO 207) 195 11 = some 206 := by decide +kernel
theorem k207_94 : decode (mB 207) 94 = .ok (.ifCond .eq 10, 3) := by decide +kernel
theorem k207_97 : decode (mB 207) 97 = .ok (.iconst 1, 1) := by decide +kernel
theorem k207_98 : decode (mB 207) 98 = .ok (.iload 7, 2) := by decide +kernel
theorem k207_100 : decode (mB 207) 100 = .ok (.ishl, 1) := by decide +kernel
theorem k207_101 : decode (mB 207) 101 = .ok (.goto 4, 3) := by decide +kernel
theorem k207_104 : decode (mB 207) 104 = .ok (.iconst 0, 1) := by decide +kernel
theorem k207_105 : decode (mB 207) 105 = .ok (.ior, 1) := by decide +kernel
theorem k207_106 : decode (mB 207) 106 = .ok (.istore 5, 2) := by decide +kernel
theorem k207_108 : decode (mB 207) 108 = .ok (.iconst 0, 1) := by decide +kernel
theorem k207_109 : decode (mB 207) 109 = .ok (.istore 8, 2) := by decide +kernel
theorem k207_111 : decode (mB 207) 111 = .ok (.iload 8, 2) := by decide +kernel
theorem k207_113 : decode (mB 207) 113 = .ok (.aload_n 0, 1) := by decide +kernel
theorem k207_114 : decode (mB 207) 114 = .ok (.getfield 25, 3) ∧ tF (mO 207) 25 = some (11, 13, 1, 1) := by decide +kernel
theorem k207_117 : decode (mB 207) 117 = .ok (.iconst 2, 1) := by decide +kernel
theorem k207_118 : decode (mB 207) 118 = .ok (.iaload, 1) := by decide +kernel
theorem k207_119 : decode (mB 207) 119 = .ok (.if_icmp .ge 64, 3) := by decide +kernel
theorem k207_122 : decode (mB 207) 122 = .ok (.aload_n 0, 1) := by decide +kernel
theorem k207_123 : decode (mB 207) 123 = .ok (.getfield 25, 3) ∧ tF (mO 207) 25 = some (11, 13, 1, 1) := by decide +kernel
theorem k207_126 : decode (mB 207) 126 = .ok (.iconst 0, 1) := by decide +kernel
theorem k207_127 : decode (mB 207) 127 = .ok (.aload_n 0, 1) := by decide +kernel
theorem k207_128 : decode (mB 207) 128 = .ok (.getfield 31, 3) ∧ tF (mO 207) 31 = some (11, 15, 1, 1) := by decide +kernel
theorem k207_131 : decode (mB 207) 131 = .ok (.iconst 0, 1) := by decide +kernel
theorem k207_132 : decode (mB 207) 132 = .ok (.invokestatic 141, 3) ∧ tM (mO 207) 141 = none ∧ tS (mO 207) 141 = some 159 := by decide +kernel
theorem k207_135 : decode (mB 207) 135 = .ok (.aload_n 0, 1) := by decide +kernel
theorem k207_136 : decode (mB 207) 136 = .ok (.getfield 31, 3) ∧ tF (mO 207) 31 = some (11, 15, 1, 1) := by decide +kernel
theorem k207_139 : decode (mB 207) 139 = .ok (.iload 7, 2) := by decide +kernel
theorem k207_141 : decode (mB 207) 141 = .ok (.iload_n 1, 1) := by decide +kernel
theorem k207_142 : decode (mB 207) 142 = .ok (.invokestatic 156, 3) ∧ tM (mO 207) 156 = none ∧ tS (mO 207) 156 = some 186 := by decide +kernel
theorem k207_145 : decode (mB 207) 145 = .ok (.pop, 1) := by decide +kernel
theorem k207_146 : decode (mB 207) 146 = .ok (.aload_n 0, 1) := by decide +kernel
theorem k207_147 : decode (mB 207) 147 = .ok (.getfield 31, 3) ∧ tF (mO 207) 31 = some (11, 15, 1, 1) := by decide +kernel
theorem k207_150 : decode (mB 207) 150 = .ok (.iload 8, 2) := by decide +kernel
theorem k207_152 : decode (mB 207) 152 = .ok (.iload_n 1, 1) := by decide +kernel
theorem k207_153 : decode (mB 207) 153 = .ok (.invokestatic 156, 3) ∧ tM (mO 207) 156 = none ∧ tS (mO 207) 156 = some 186 := by decide +kernel
theorem k207_156 : decode (mB 207) 156 = .ok (.pop, 1) := by decide +kernel
theorem k207_157 : decode (mB 207) 157 = .ok (.iload 6, 2) := by decide +kernel
theorem k207_159 : decode (mB 207) 159 = .ok (.aload_n 0, 1) := by decide +kernel
theorem k207_160 : decode (mB 207) 160 = .ok (.iload_n 1, 1) := by decide +kernel
theorem k207_161 : decode (mB 207) 161 = .ok (.iload_n 2, 1) := by decide +kernel
theorem k207_162 : decode (mB 207) 162 = .ok (.iload_n 3, 1) := by decide +kernel
theorem k207_163 : decode (mB 207) 163 = .ok (.invokevirtual 195, 3) ∧ tVn (mO 207) 195 = some 3 ∧ tV (mO 207) 195 11 = some 206 := by decide +kernel
theorem k207_166 : decode (mB 207) 166 = .ok (.ifCond .eq 7, 3) := by decide +kernel
theorem k207_169 : decode (mB 207) 169 = .ok (.iconst 1, 1) := by decide +kernel
theorem k207_170 : decode (mB 207) 170 = .ok (.goto 4, 3) := by decide +kernel
theorem k207_173 : decode (mB 207) 173 = .ok (.iconst 0, 1) := by decide +kernel
theorem k207_174 : decode (mB 207) 174 = .ok (.iadd, 1) := by decide +kernel
theorem k207_175 : decode (mB 207) 175 = .ok (.istore 6, 2) := by decide +kernel
theorem k207_177 : decode (mB 207) 177 = .ok (.iinc 8 1, 3) := by decide +kernel
theorem k207_180 : decode (mB 207) 180 = .ok (.goto (-69), 3) := by decide +kernel
theorem k207_183 : decode (mB 207) 183 = .ok (.iinc 7 1, 3) := by decide +kernel
theorem k207_186 : decode (mB 207) 186 = .ok (.goto (-136), 3) := by decide +kernel
theorem k207_189 : decode (mB 207) 189 = .ok (.iload 4, 2) := by decide +kernel
theorem k207_191 : decode (mB 207) 191 = .ok (.ifCond .ne 8, 3) := by decide +kernel
theorem k207_194 : decode (mB 207) 194 = .ok (.iload 5, 2) := by decide +kernel
theorem k207_196 : decode (mB 207) 196 = .ok (.goto 5, 3) := by decide +kernel
theorem k207_199 : decode (mB 207) 199 = .ok (.iload 6, 2) := by decide +kernel
theorem k207_201 : decode (mB 207) 201 = .ok (.ireturn, 1) ∧ mR 207 = (some .int) := by decide +kernel
end
section
-- 208: ChairPastModel.trios:(I)I, locals 5
theorem l208 : mL 208 = 5 := by decide +kernel
theorem k208_0 : decode (mB 208) 0 = .ok (.aload_n 0, 1) := by decide +kernel
theorem k208_1 : decode (mB 208) 1 = .ok (.invokevirtual 185, 3) ∧ tVn (mO 208) 185 = some 0 ∧ tV (mO 208) 185 11 = some 181 := by decide +kernel
theorem k208_4 : decode (mB 208) 4 = .ok (.ifCond .ne 6, 3) := by decide +kernel
theorem k208_7 : decode (mB 208) 7 = .ok (.ldc 173, 2) ∧ tK (mO 208) 173 = some (-1000002) := by decide +kernel
theorem k208_9 : decode (mB 208) 9 = .ok (.ireturn, 1) ∧ mR 208 = (some .int) := by decide +kernel
theorem k208_10 : decode (mB 208) 10 = .ok (.iload_n 1, 1) := by decide +kernel
theorem k208_11 : decode (mB 208) 11 = .ok (.iconst 0, 1) := by decide +kernel
theorem k208_12 : decode (mB 208) 12 = .ok (.iconst 1, 1) := by decide +kernel
theorem k208_13 : decode (mB 208) 13 = .ok (.invokestatic 59, 3) ∧ tM (mO 208) 59 = none ∧ tS (mO 208) 59 = some 155 := by decide +kernel
theorem k208_16 : decode (mB 208) 16 = .ok (.ifCond .ne 6, 3) := by decide +kernel
theorem k208_19 : decode (mB 208) 19 = .ok (.ldc 67, 2) ∧ tK (mO 208) 67 = some (-1000001) := by decide +kernel
theorem k208_21 : decode (mB 208) 21 = .ok (.ireturn, 1) ∧ mR 208 = (some .int) := by decide +kernel
theorem k208_22 : decode (mB 208) 22 = .ok (.iconst 0, 1) := by decide +kernel
theorem k208_23 : decode (mB 208) 23 = .ok (.istore_n 2, 1) := by decide +kernel
theorem k208_24 : decode (mB 208) 24 = .ok (.ldc 53, 2) ∧ tK (mO 208) 53 = some (-1000000) := by decide +kernel
theorem k208_26 : decode (mB 208) 26 = .ok (.istore_n 3, 1) := by decide +kernel
theorem k208_27 : decode (mB 208) 27 = .ok (.iconst 0, 1) := by decide +kernel
theorem k208_28 : decode (mB 208) 28 = .ok (.istore 4, 2) := by decide +kernel
theorem k208_30 : decode (mB 208) 30 = .ok (.iload 4, 2) := by decide +kernel
theorem k208_32 : decode (mB 208) 32 = .ok (.aload_n 0, 1) := by decide +kernel
theorem k208_33 : decode (mB 208) 33 = .ok (.getfield 25, 3) ∧ tF (mO 208) 25 = some (11, 13, 1, 1) := by decide +kernel
theorem k208_36 : decode (mB 208) 36 = .ok (.iconst 1, 1) := by decide +kernel
theorem k208_37 : decode (mB 208) 37 = .ok (.iaload, 1) := by decide +kernel
theorem k208_38 : decode (mB 208) 38 = .ok (.if_icmp .ge 35, 3) := by decide +kernel
theorem k208_41 : decode (mB 208) 41 = .ok (.aload_n 0, 1) := by decide +kernel
theorem k208_42 : decode (mB 208) 42 = .ok (.getfield 25, 3) ∧ tF (mO 208) 25 = some (11, 13, 1, 1) := by decide +kernel
theorem k208_45 : decode (mB 208) 45 = .ok (.iload 4, 2) := by decide +kernel
theorem k208_47 : decode (mB 208) 47 = .ok (.invokestatic 163, 3) ∧ tM (mO 208) 163 = none ∧ tS (mO 208) 163 = some 190 := by decide +kernel
theorem k208_50 : decode (mB 208) 50 = .ok (.ifCond .eq 17, 3) := by decide +kernel
theorem k208_53 : decode (mB 208) 53 = .ok (.iload_n 2, 1) := by decide +kernel
theorem k208_54 : decode (mB 208) 54 = .ok (.ifCond .ne 8, 3) := by decide +kernel
theorem k208_57 : decode (mB 208) 57 = .ok (.iload 4, 2) := by decide +kernel
theorem k208_59 : decode (mB 208) 59 = .ok (.goto 4, 3) := by decide +kernel
theorem k208_62 : decode (mB 208) 62 = .ok (.iload_n 3, 1) := by decide +kernel
theorem k208_63 : decode (mB 208) 63 = .ok (.istore_n 3, 1) := by decide +kernel
theorem k208_64 : decode (mB 208) 64 = .ok (.iinc 2 1, 3) := by decide +kernel
theorem k208_67 : decode (mB 208) 67 = .ok (.iinc 4 1, 3) := by decide +kernel
theorem k208_70 : decode (mB 208) 70 = .ok (.goto (-40), 3) := by decide +kernel
theorem k208_73 : decode (mB 208) 73 = .ok (.iload_n 1, 1) := by decide +kernel
theorem k208_74 : decode (mB 208) 74 = .ok (.ifCond .ne 7, 3) := by decide +kernel
theorem k208_77 : decode (mB 208) 77 = .ok (.iload_n 2, 1) := by decide +kernel
theorem k208_78 : decode (mB 208) 78 = .ok (.goto 4, 3) := by decide +kernel
theorem k208_81 : decode (mB 208) 81 = .ok (.iload_n 3, 1) := by decide +kernel
theorem k208_82 : decode (mB 208) 82 = .ok (.ireturn, 1) ∧ mR 208 = (some .int) := by decide +kernel
-- 209: ChairPastModel.owns:(III)I, locals 8
theorem l209 : mL 209 = 8 := by decide +kernel
theorem k209_0 : decode (mB 209) 0 = .ok (.aload_n 0, 1) := by decide +kernel
theorem k209_1 : decode (mB 209) 1 = .ok (.iload_n 1, 1) := by decide +kernel
theorem k209_2 : decode (mB 209) 2 = .ok (.invokevirtual 167, 3) ∧ tVn (mO 209) 167 = some 1 ∧ tV (mO 209) 167 11 = some 183 := by decide +kernel
theorem k209_5 : decode (mB 209) 5 = .ok (.ifCond .eq 10, 3) := by decide +kernel
theorem k209_8 : decode (mB 209) 8 = .ok (.iload_n 2, 1) := by decide +kernel
theorem k209_9 : decode (mB 209) 9 = .ok (.invokestatic 63, 3) ∧ tM (mO 209) 63 = none ∧ tS (mO 209) 63 = some 160 := by decide +kernel
theorem k209_12 : decode (mB 209) 12 = .ok (.ifCond .ne 6, 3) := by decide +kernel
theorem k209_15 : decode (mB 209) 15 = .ok (.ldc 67, 2) ∧ tK (mO 209) 67 = some (-1000001) := by decide +kernel
theorem k209_17 : decode (mB 209) 17 = .ok (.ireturn, 1) ∧ mR 209 = (some .int) := by decide +kernel
theorem k209_18 : decode (mB 209) 18 = .ok (.aload_n 0, 1) := by decide +kernel
theorem k209_19 : decode (mB 209) 19 = .ok (.iload_n 2, 1) := by decide +kernel
theorem k209_20 : decode (mB 209) 20 = .ok (.invokevirtual 75, 3) ∧ tVn (mO 209) 75 = some 1 ∧ tV (mO 209) 75 11 = some 161 := by decide +kernel
theorem k209_23 : decode (mB 209) 23 = .ok (.ifCond .eq 9, 3) := by decide +kernel
theorem k209_26 : decode (mB 209) 26 = .ok (.aload_n 0, 1) := by decide +kernel
theorem k209_27 : decode (mB 209) 27 = .ok (.iconst 1, 1) := by decide +kernel
theorem k209_28 : decode (mB 209) 28 = .ok (.invokevirtual 68, 3) ∧ tVn (mO 209) 68 = some 1 ∧ tV (mO 209) 68 11 = some 157 := by decide +kernel
theorem k209_31 : decode (mB 209) 31 = .ok (.ireturn, 1) ∧ mR 209 = (some .int) := by decide +kernel
theorem k209_32 : decode (mB 209) 32 = .ok (.aload_n 0, 1) := by decide +kernel
theorem k209_33 : decode (mB 209) 33 = .ok (.iload_n 2, 1) := by decide +kernel
theorem k209_34 : decode (mB 209) 34 = .ok (.iload_n 3, 1) := by decide +kernel
theorem k209_35 : decode (mB 209) 35 = .ok (.aload_n 0, 1) := by decide +kernel
theorem k209_36 : decode (mB 209) 36 = .ok (.getfield 25, 3) ∧ tF (mO 209) 25 = some (11, 13, 1, 1) := by decide +kernel
theorem k209_39 : decode (mB 209) 39 = .ok (.iconst 1, 1) := by decide +kernel
theorem k209_40 : decode (mB 209) 40 = .ok (.iaload, 1) := by decide +kernel
theorem k209_41 : decode (mB 209) 41 = .ok (.invokevirtual 82, 3) ∧ tVn (mO 209) 82 = some 3 ∧ tV (mO 209) 82 11 = some 165 := by decide +kernel
theorem k209_44 : decode (mB 209) 44 = .ok (.ifCond .ne 9, 3) := by decide +kernel
theorem k209_47 : decode (mB 209) 47 = .ok (.aload_n 0, 1) := by decide +kernel
theorem k209_48 : decode (mB 209) 48 = .ok (.iconst 2, 1) := by decide +kernel
theorem k209_49 : decode (mB 209) 49 = .ok (.invokevirtual 68, 3) ∧ tVn (mO 209) 68 = some 1 ∧ tV (mO 209) 68 11 = some 157 := by decide +kernel
theorem k209_52 : decode (mB 209) 52 = .ok (.ireturn, 1) ∧ mR 209 = (some .int) := by decide +kernel
theorem k209_53 : decode (mB 209) 53 = .ok (.iconst 0, 1) := by decide +kernel
theorem k209_54 : decode (mB 209) 54 = .ok (.istore 4, 2) := by decide +kernel
theorem k209_56 : decode (mB 209) 56 = .ok (.iconst 0, 1) := by decide +kernel
theorem k209_57 : decode (mB 209) 57 = .ok (.istore 5, 2) := by decide +kernel
theorem k209_59 : decode (mB 209) 59 = .ok (.iload 5, 2) := by decide +kernel
theorem k209_61 : decode (mB 209) 61 = .ok (.bipush 10, 2) := by decide +kernel
theorem k209_63 : decode (mB 209) 63 = .ok (.if_icmp .ge 90, 3) := by decide +kernel
theorem k209_66 : decode (mB 209) 66 = .ok (.iconst 1, 1) := by decide +kernel
theorem k209_67 : decode (mB 209) 67 = .ok (.istore 6, 2) := by decide +kernel
theorem k209_69 : decode (mB 209) 69 = .ok (.iconst 0, 1) := by decide +kernel
theorem k209_70 : decode (mB 209) 70 = .ok (.istore 7, 2) := by decide +kernel
theorem k209_72 : decode (mB 209) 72 = .ok (.iload 7, 2) := by decide +kernel
theorem k209_74 : decode (mB 209) 74 = .ok (.aload_n 0, 1) := by decide +kernel
theorem k209_75 : decode (mB 209) 75 = .ok (.getfield 25, 3) ∧ tF (mO 209) 25 = some (11, 13, 1, 1) := by decide +kernel
theorem k209_78 : decode (mB 209) 78 = .ok (.iconst 1, 1) := by decide +kernel
theorem k209_79 : decode (mB 209) 79 = .ok (.iaload, 1) := by decide +kernel
theorem k209_80 : decode (mB 209) 80 = .ok (.if_icmp .ge 49, 3) := by decide +kernel
theorem k209_83 : decode (mB 209) 83 = .ok (.iload 6, 2) := by decide +kernel
theorem k209_85 : decode (mB 209) 85 = .ok (.ifCond .eq 35, 3) := by decide +kernel
theorem k209_88 : decode (mB 209) 88 = .ok (.aload_n 0, 1) := by decide +kernel
theorem k209_89 : decode (mB 209) 89 = .ok (.getfield 25, 3) ∧ tF (mO 209) 25 = some (11, 13, 1, 1) := by decide +kernel
theorem k209_92 : decode (mB 209) 92 = .ok (.iload 7, 2) := by decide +kernel
theorem k209_94 : decode (mB 209) 94 = .ok (.iload 5, 2) := by decide +kernel
theorem k209_96 : decode (mB 209) 96 = .ok (.invokestatic 152, 3) ∧ tM (mO 209) 152 = none ∧ tS (mO 209) 152 = some 185 := by decide +kernel
theorem k209_99 : decode (mB 209) 99 = .ok (.aload_n 0, 1) := by decide +kernel
theorem k209_100 : decode (mB 209) 100 = .ok (.getfield 16, 3) ∧ tF (mO 209) 16 = some (11, 2, 1, 1) := by decide +kernel
theorem k209_103 : decode (mB 209) 103 = .ok (.bipush 40, 2) := by decide +kernel
theorem k209_105 : decode (mB 209) 105 = .ok (.iload_n 2, 1) := by decide +kernel
theorem k209_106 : decode (mB 209) 106 = .ok (.imul, 1) := by decide +kernel
theorem k209_107 : decode (mB 209) 107 = .ok (.iload_n 3, 1) := by decide +kernel
theorem k209_108 : decode (mB 209) 108 = .ok (.iadd, 1) := by decide +kernel
theorem k209_109 : decode (mB 209) 109 = .ok (.iload 7, 2) := by decide +kernel
theorem k209_111 : decode (mB 209) 111 = .ok (.iadd, 1) := by decide +kernel
theorem k209_112 : decode (mB 209) 112 = .ok (.iaload, 1) := by decide +kernel
theorem k209_113 : decode (mB 209) 113 = .ok (.if_icmp .ne 7, 3) := by decide +kernel
theorem k209_116 : decode (mB 209) 116 = .ok (.iconst 1, 1) := by decide +kernel
theorem k209_117 : decode (mB 209) 117 = .ok (.goto 4, 3) := by decide +kernel
theorem k209_120 : decode (mB 209) 120 = .ok (.iconst 0, 1) := by decide +kernel
theorem k209_121 : decode (mB 209) 121 = .ok (.istore 6, 2) := by decide +kernel
theorem k209_123 : decode (mB 209) 123 = .ok (.iinc 7 1, 3) := by decide +kernel
theorem k209_126 : decode (mB 209) 126 = .ok (.goto (-54), 3) := by decide +kernel
theorem k209_129 : decode (mB 209) 129 = .ok (.iload 4, 2) := by decide +kernel
theorem k209_131 : decode (mB 209) 131 = .ok (.iload 6, 2) := by decide +kernel
theorem k209_133 : decode (mB 209) 133 = .ok (.ifCond .eq 10, 3) := by decide +kernel
theorem k209_136 : decode (mB 209) 136 = .ok (.iconst 1, 1) := by decide +kernel
theorem k209_137 : decode (mB 209) 137 = .ok (.iload 5, 2) := by decide +kernel
theorem k209_139 : decode (mB 209) 139 = .ok (.ishl, 1) := by decide +kernel
theorem k209_140 : decode (mB 209) 140 = .ok (.goto 4, 3) := by decide +kernel
theorem k209_143 : decode (mB 209) 143 = .ok (.iconst 0, 1) := by decide +kernel
theorem k209_144 : decode (mB 209) 144 = .ok (.ior, 1) := by decide +kernel
theorem k209_145 : decode (mB 209) 145 = .ok (.istore 4, 2) := by decide +kernel
theorem k209_147 : decode (mB 209) 147 = .ok (.iinc 5 1, 3) := by decide +kernel
theorem k209_150 : decode (mB 209) 150 = .ok (.goto (-91), 3) := by decide +kernel
theorem k209_153 : decode (mB 209) 153 = .ok (.aload_n 0, 1) := by decide +kernel
theorem k209_154 : decode (mB 209) 154 = .ok (.iload 4, 2) := by decide +kernel
theorem k209_156 : decode (mB 209) 156 = .ok (.invokevirtual 72, 3) ∧ tVn (mO 209) 72 = some 1 ∧ tV (mO 209) 72 11 = some 158 := by decide +kernel
theorem k209_159 : decode (mB 209) 159 = .ok (.ireturn, 1) ∧ mR 209 = (some .int) := by decide +kernel
-- 210: ChairPastModel.fits:(IIII)I, locals 11
theorem l210 : mL 210 = 11 := by decide +kernel
theorem k210_0 : decode (mB 210) 0 = .ok (.aload_n 0, 1) := by decide +kernel
theorem k210_1 : decode (mB 210) 1 = .ok (.iload_n 1, 1) := by decide +kernel
theorem k210_2 : decode (mB 210) 2 = .ok (.invokevirtual 170, 3) ∧ tVn (mO 210) 170 = some 1 ∧ tV (mO 210) 170 11 = some 182 := by decide +kernel
theorem k210_5 : decode (mB 210) 5 = .ok (.ifCond .eq 20, 3) := by decide +kernel
theorem k210_8 : decode (mB 210) 8 = .ok (.iload_n 2, 1) := by decide +kernel
theorem k210_9 : decode (mB 210) 9 = .ok (.invokestatic 63, 3) ∧ tM (mO 210) 63 = none ∧ tS (mO 210) 63 = some 160 := by decide +kernel
theorem k210_12 : decode (mB 210) 12 = .ok (.ifCond .eq 13, 3) := by decide +kernel
theorem k210_15 : decode (mB 210) 15 = .ok (.iload 4, 2) := by decide +kernel
theorem k210_17 : decode (mB 210) 17 = .ok (.iconst 0, 1) := by decide +kernel
theorem k210_18 : decode (mB 210) 18 = .ok (.iconst 2, 1) := by decide +kernel
theorem k210_19 : decode (mB 210) 19 = .ok (.invokestatic 59, 3) ∧ tM (mO 210) 59 = none ∧ tS (mO 210) 59 = some 155 := by decide +kernel
theorem k210_22 : decode (mB 210) 22 = .ok (.ifCond .ne 6, 3) := by decide +kernel
theorem k210_25 : decode (mB 210) 25 = .ok (.ldc 67, 2) ∧ tK (mO 210) 67 = some (-1000001) := by decide +kernel
theorem k210_27 : decode (mB 210) 27 = .ok (.ireturn, 1) ∧ mR 210 = (some .int) := by decide +kernel
theorem k210_28 : decode (mB 210) 28 = .ok (.aload_n 0, 1) := by decide +kernel
theorem k210_29 : decode (mB 210) 29 = .ok (.iload_n 2, 1) := by decide +kernel
theorem k210_30 : decode (mB 210) 30 = .ok (.invokevirtual 75, 3) ∧ tVn (mO 210) 75 = some 1 ∧ tV (mO 210) 75 11 = some 161 := by decide +kernel
theorem k210_33 : decode (mB 210) 33 = .ok (.ifCond .eq 9, 3) := by decide +kernel
theorem k210_36 : decode (mB 210) 36 = .ok (.aload_n 0, 1) := by decide +kernel
theorem k210_37 : decode (mB 210) 37 = .ok (.iconst 1, 1) := by decide +kernel
theorem k210_38 : decode (mB 210) 38 = .ok (.invokevirtual 68, 3) ∧ tVn (mO 210) 68 = some 1 ∧ tV (mO 210) 68 11 = some 157 := by decide +kernel
theorem k210_41 : decode (mB 210) 41 = .ok (.ireturn, 1) ∧ mR 210 = (some .int) := by decide +kernel
theorem k210_42 : decode (mB 210) 42 = .ok (.aload_n 0, 1) := by decide +kernel
theorem k210_43 : decode (mB 210) 43 = .ok (.iload_n 2, 1) := by decide +kernel
theorem k210_44 : decode (mB 210) 44 = .ok (.iload_n 3, 1) := by decide +kernel
theorem k210_45 : decode (mB 210) 45 = .ok (.aload_n 0, 1) := by decide +kernel
theorem k210_46 : decode (mB 210) 46 = .ok (.getfield 25, 3) ∧ tF (mO 210) 25 = some (11, 13, 1, 1) := by decide +kernel
theorem k210_49 : decode (mB 210) 49 = .ok (.iconst 2, 1) := by decide +kernel
theorem k210_50 : decode (mB 210) 50 = .ok (.iaload, 1) := by decide +kernel
theorem k210_51 : decode (mB 210) 51 = .ok (.invokevirtual 82, 3) ∧ tVn (mO 210) 82 = some 3 ∧ tV (mO 210) 82 11 = some 165 := by decide +kernel
theorem k210_54 : decode (mB 210) 54 = .ok (.ifCond .ne 9, 3) := by decide +kernel
theorem k210_57 : decode (mB 210) 57 = .ok (.aload_n 0, 1) := by decide +kernel
theorem k210_58 : decode (mB 210) 58 = .ok (.iconst 2, 1) := by decide +kernel
theorem k210_59 : decode (mB 210) 59 = .ok (.invokevirtual 68, 3) ∧ tVn (mO 210) 68 = some 1 ∧ tV (mO 210) 68 11 = some 157 := by decide +kernel
theorem k210_62 : decode (mB 210) 62 = .ok (.ireturn, 1) ∧ mR 210 = (some .int) := by decide +kernel
theorem k210_63 : decode (mB 210) 63 = .ok (.iconst 3, 1) := by decide +kernel
theorem k210_64 : decode (mB 210) 64 = .ok (.iconst 5, 1) := by decide +kernel
theorem k210_65 : decode (mB 210) 65 = .ok (.iload_n 1, 1) := by decide +kernel
theorem k210_66 : decode (mB 210) 66 = .ok (.imul, 1) := by decide +kernel
theorem k210_67 : decode (mB 210) 67 = .ok (.iadd, 1) := by decide +kernel
theorem k210_68 : decode (mB 210) 68 = .ok (.iload 4, 2) := by decide +kernel
theorem k210_70 : decode (mB 210) 70 = .ok (.iconst 2, 1) := by decide +kernel
theorem k210_71 : decode (mB 210) 71 = .ok (.if_icmp .ne 7, 3) := by decide +kernel
theorem k210_74 : decode (mB 210) 74 = .ok (.iconst 0, 1) := by decide +kernel
theorem k210_75 : decode (mB 210) 75 = .ok (.goto 7, 3) := by decide +kernel
theorem k210_78 : decode (mB 210) 78 = .ok (.iconst 1, 1) := by decide +kernel
theorem k210_79 : decode (mB 210) 79 = .ok (.iload 4, 2) := by decide +kernel
theorem k210_81 : decode (mB 210) 81 = .ok (.iadd, 1) := by decide +kernel
theorem k210_82 : decode (mB 210) 82 = .ok (.iadd, 1) := by decide +kernel
theorem k210_83 : decode (mB 210) 83 = .ok (.istore 5, 2) := by decide +kernel
theorem k210_85 : decode (mB 210) 85 = .ok (.iconst 0, 1) := by decide +kernel
theorem k210_86 : decode (mB 210) 86 = .ok (.istore 6, 2) := by decide +kernel
theorem k210_88 : decode (mB 210) 88 = .ok (.iload 4, 2) := by decide +kernel
theorem k210_90 : decode (mB 210) 90 = .ok (.iconst 2, 1) := by decide +kernel
theorem k210_91 : decode (mB 210) 91 = .ok (.if_icmp .ne 7, 3) := by decide +kernel
theorem k210_94 : decode (mB 210) 94 = .ok (.iconst 1, 1) := by decide +kernel
theorem k210_95 : decode (mB 210) 95 = .ok (.goto 4, 3) := by decide +kernel
theorem k210_98 : decode (mB 210) 98 = .ok (.iconst 0, 1) := by decide +kernel
theorem k210_99 : decode (mB 210) 99 = .ok (.istore 7, 2) := by decide +kernel
theorem k210_101 : decode (mB 210) 101 = .ok (.iload 7, 2) := by decide +kernel
theorem k210_103 : decode (mB 210) 103 = .ok (.iload 4, 2) := by decide +kernel
theorem k210_105 : decode (mB 210) 105 = .ok (.ifCond .ne 8, 3) := by decide +kernel
theorem k210_108 : decode (mB 210) 108 = .ok (.bipush 9, 2) := by decide +kernel
theorem k210_110 : decode (mB 210) 110 = .ok (.goto 15, 3) := by decide +kernel
theorem k210_113 : decode (mB 210) 113 = .ok (.iload 4, 2) := by decide +kernel
theorem k210_115 : decode (mB 210) 115 = .ok (.iconst 1, 1) := by decide +kernel
theorem k210_116 : decode (mB 210) 116 = .ok (.if_icmp .ne 8, 3) := by decide +kernel
theorem k210_119 : decode (mB 210) 119 = .ok (.bipush 16, 2) := by decide +kernel
theorem k210_121 : decode (mB 210) 121 = .ok (.goto 4, 3) := by decide +kernel
theorem k210_124 : decode (mB 210) 124 = .ok (.iconst 5, 1) := by decide +kernel
theorem k210_125 : decode (mB 210) 125 = .ok (.if_icmp .gt 115, 3) := by decide +kernel
theorem k210_128 : decode (mB 210) 128 = .ok (.aload_n 0, 1) := by decide +kernel
theorem k210_129 : decode (mB 210) 129 = .ok (.getfield 25, 3) ∧ tF (mO 210) 25 = some (11, 13, 1, 1) := by decide +kernel
theorem k210_132 : decode (mB 210) 132 = .ok (.iconst 0, 1) := by decide +kernel
theorem k210_133 : decode (mB 210) 133 = .ok (.aload_n 0, 1) := by decide +kernel
theorem k210_134 : decode (mB 210) 134 = .ok (.getfield 31, 3) ∧ tF (mO 210) 31 = some (11, 15, 1, 1) := by decide +kernel
theorem k210_137 : decode (mB 210) 137 = .ok (.iconst 0, 1) := by decide +kernel
theorem k210_138 : decode (mB 210) 138 = .ok (.invokestatic 141, 3) ∧ tM (mO 210) 141 = none ∧ tS (mO 210) 141 = some 159 := by decide +kernel
theorem k210_141 : decode (mB 210) 141 = .ok (.aload_n 0, 1) := by decide +kernel
theorem k210_142 : decode (mB 210) 142 = .ok (.getfield 31, 3) ∧ tF (mO 210) 31 = some (11, 15, 1, 1) := by decide +kernel
theorem k210_145 : decode (mB 210) 145 = .ok (.iload 5, 2) := by decide +kernel
theorem k210_147 : decode (mB 210) 147 = .ok (.iload 7, 2) := by decide +kernel
theorem k210_149 : decode (mB 210) 149 = .ok (.iastore, 1) := by decide +kernel
theorem k210_150 : decode (mB 210) 150 = .ok (.iconst 1, 1) := by decide +kernel
theorem k210_151 : decode (mB 210) 151 = .ok (.istore 8, 2) := by decide +kernel
theorem k210_153 : decode (mB 210) 153 = .ok (.iconst 0, 1) := by decide +kernel
theorem k210_154 : decode (mB 210) 154 = .ok (.istore 9, 2) := by decide +kernel
theorem k210_156 : decode (mB 210) 156 = .ok (.iload 9, 2) := by decide +kernel
theorem k210_158 : decode (mB 210) 158 = .ok (.aload_n 0, 1) := by decide +kernel
theorem k210_159 : decode (mB 210) 159 = .ok (.getfield 25, 3) ∧ tF (mO 210) 25 = some (11, 13, 1, 1) := by decide +kernel
theorem k210_162 : decode (mB 210) 162 = .ok (.iconst 2, 1) := by decide +kernel
theorem k210_163 : decode (mB 210) 163 = .ok (.iaload, 1) := by decide +kernel
theorem k210_164 : decode (mB 210) 164 = .ok (.if_icmp .ge 52, 3) := by decide +kernel
theorem k210_167 : decode (mB 210) 167 = .ok (.aload_n 0, 1) := by decide +kernel
theorem k210_168 : decode (mB 210) 168 = .ok (.getfield 31, 3) ∧ tF (mO 210) 31 = some (11, 15, 1, 1) := by decide +kernel
theorem k210_171 : decode (mB 210) 171 = .ok (.iload 9, 2) := by decide +kernel
theorem k210_173 : decode (mB 210) 173 = .ok (.iload_n 1, 1) := by decide +kernel
theorem k210_174 : decode (mB 210) 174 = .ok (.invokestatic 156, 3) ∧ tM (mO 210) 156 = none ∧ tS (mO 210) 156 = some 186 := by decide +kernel
theorem k210_177 : decode (mB 210) 177 = .ok (.istore 10, 2) := by decide +kernel
theorem k210_179 : decode (mB 210) 179 = .ok (.iload 8, 2) := by decide +kernel
theorem k210_181 : decode (mB 210) 181 = .ok (.ifCond .eq 26, 3) := by decide +kernel
theorem k210_184 : decode (mB 210) 184 = .ok (.iload 10, 2) := by decide +kernel
theorem k210_186 : decode (mB 210) 186 = .ok (.aload_n 0, 1) := by decide +kernel
theorem k210_187 : decode (mB 210) 187 = .ok (.getfield 16, 3) ∧ tF (mO 210) 16 = some (11, 2, 1, 1) := by decide +kernel
theorem k210_190 : decode (mB 210) 190 = .ok (.bipush 40, 2) := by decide +kernel
theorem k210_192 : decode (mB 210) 192 = .ok (.iload_n 2, 1) := by decide +kernel
theorem k210_193 : decode (mB 210) 193 = .ok (.imul, 1) := by decide +kernel
theorem k210_194 : decode (mB 210) 194 = .ok (.iload_n 3, 1) := by decide +kernel
theorem k210_195 : decode (mB 210) 195 = .ok (.iadd, 1) := by decide +kernel
theorem k210_196 : decode (mB 210) 196 = .ok (.iload 9, 2) := by decide +kernel
theorem k210_198 : decode (mB 210) 198 = .ok (.iadd, 1) := by decide +kernel
theorem k210_199 : decode (mB 210) 199 = .ok (.iaload, 1) := by decide +kernel
theorem k210_200 : decode (mB 210) 200 = .ok (.if_icmp .ne 7, 3) := by decide +kernel
theorem k210_203 : decode (mB 210) 203 = .ok (.iconst 1, 1) := by decide +kernel
theorem k210_204 : decode (mB 210) 204 = .ok (.goto 4, 3) := by decide +kernel
theorem k210_207 : decode (mB 210) 207 = .ok (.iconst 0, 1) := by decide +kernel
theorem k210_208 : decode (mB 210) 208 = .ok (.istore 8, 2) := by decide +kernel
theorem k210_210 : decode (mB 210) 210 = .ok (.iinc 9 1, 3) := by decide +kernel
theorem k210_213 : decode (mB 210) 213 = .ok (.goto (-57), 3) := by decide +kernel
theorem k210_216 : decode (mB 210) 216 = .ok (.iload 6, 2) := by decide +kernel
theorem k210_218 : decode (mB 210) 218 = .ok (.iload 8, 2) := by decide +kernel
theorem k210_220 : decode (mB 210) 220 = .ok (.ifCond .eq 10, 3) := by decide +kernel
theorem k210_223 : decode (mB 210) 223 = .ok (.iconst 1, 1) := by decide +kernel
theorem k210_224 : decode (mB 210) 224 = .ok (.iload 7, 2) := by decide +kernel
theorem k210_226 : decode (mB 210) 226 = .ok (.ishl, 1) := by decide +kernel
theorem k210_227 : decode (mB 210) 227 = .ok (.goto 4, 3) := by decide +kernel
theorem k210_230 : decode (mB 210) 230 = .ok (.iconst 0, 1) := by decide +kernel
theorem k210_231 : decode (mB 210) 231 = .ok (.ior, 1) := by decide +kernel
theorem k210_232 : decode (mB 210) 232 = .ok (.istore 6, 2) := by decide +kernel
theorem k210_234 : decode (mB 210) 234 = .ok (.iinc 7 1, 3) := by decide +kernel
theorem k210_237 : decode (mB 210) 237 = .ok (.goto (-136), 3) := by decide +kernel
theorem k210_240 : decode (mB 210) 240 = .ok (.aload_n 0, 1) := by decide +kernel
theorem k210_241 : decode (mB 210) 241 = .ok (.iload 6, 2) := by decide +kernel
theorem k210_243 : decode (mB 210) 243 = .ok (.invokevirtual 72, 3) ∧ tVn (mO 210) 72 = some 1 ∧ tV (mO 210) 72 11 = some 158 := by decide +kernel
theorem k210_246 : decode (mB 210) 246 = .ok (.ireturn, 1) ∧ mR 210 = (some .int) := by decide +kernel
-- 211: ChairPastModel.sitDown:()V, locals 3
theorem l211 : mL 211 = 3 := by decide +kernel
theorem k211_0 : decode (mB 211) 0 = .ok (.iconst 0, 1) := by decide +kernel
theorem k211_1 : decode (mB 211) 1 = .ok (.istore_n 1, 1) := by decide +kernel
theorem k211_2 : decode (mB 211) 2 = .ok (.iload_n 1, 1) := by decide +kernel
theorem k211_3 : decode (mB 211) 3 = .ok (.aload_n 0, 1) := by decide +kernel
theorem k211_4 : decode (mB 211) 4 = .ok (.getfield 31, 3) ∧ tF (mO 211) 31 = some (11, 15, 1, 1) := by decide +kernel
theorem k211_7 : decode (mB 211) 7 = .ok (.iconst 2, 1) := by decide +kernel
theorem k211_8 : decode (mB 211) 8 = .ok (.iaload, 1) := by decide +kernel
theorem k211_9 : decode (mB 211) 9 = .ok (.if_icmp .ge 75, 3) := by decide +kernel
theorem k211_12 : decode (mB 211) 12 = .ok (.iconst 0, 1) := by decide +kernel
theorem k211_13 : decode (mB 211) 13 = .ok (.istore_n 2, 1) := by decide +kernel
theorem k211_14 : decode (mB 211) 14 = .ok (.iload_n 2, 1) := by decide +kernel
theorem k211_15 : decode (mB 211) 15 = .ok (.aload_n 0, 1) := by decide +kernel
theorem k211_16 : decode (mB 211) 16 = .ok (.getfield 31, 3) ∧ tF (mO 211) 31 = some (11, 15, 1, 1) := by decide +kernel
theorem k211_19 : decode (mB 211) 19 = .ok (.iconst 1, 1) := by decide +kernel
theorem k211_20 : decode (mB 211) 20 = .ok (.iaload, 1) := by decide +kernel
theorem k211_21 : decode (mB 211) 21 = .ok (.if_icmp .ge 22, 3) := by decide +kernel
theorem k211_24 : decode (mB 211) 24 = .ok (.aload_n 0, 1) := by decide +kernel
theorem k211_25 : decode (mB 211) 25 = .ok (.getfield 31, 3) ∧ tF (mO 211) 31 = some (11, 15, 1, 1) := by decide +kernel
theorem k211_28 : decode (mB 211) 28 = .ok (.iload_n 2, 1) := by decide +kernel
theorem k211_29 : decode (mB 211) 29 = .ok (.invokestatic 159, 3) ∧ tM (mO 211) 159 = none ∧ tS (mO 211) 159 = some 187 := by decide +kernel
theorem k211_32 : decode (mB 211) 32 = .ok (.ldc 53, 2) ∧ tK (mO 211) 53 = some (-1000000) := by decide +kernel
theorem k211_34 : decode (mB 211) 34 = .ok (.if_icmp .eq 9, 3) := by decide +kernel
theorem k211_37 : decode (mB 211) 37 = .ok (.iinc 2 1, 3) := by decide +kernel
theorem k211_40 : decode (mB 211) 40 = .ok (.goto (-26), 3) := by decide +kernel
theorem k211_43 : decode (mB 211) 43 = .ok (.aload_n 0, 1) := by decide +kernel
theorem k211_44 : decode (mB 211) 44 = .ok (.getfield 31, 3) ∧ tF (mO 211) 31 = some (11, 15, 1, 1) := by decide +kernel
theorem k211_47 : decode (mB 211) 47 = .ok (.bipush 28, 2) := by decide +kernel
theorem k211_49 : decode (mB 211) 49 = .ok (.iconst 4, 1) := by decide +kernel
theorem k211_50 : decode (mB 211) 50 = .ok (.iload_n 1, 1) := by decide +kernel
theorem k211_51 : decode (mB 211) 51 = .ok (.imul, 1) := by decide +kernel
theorem k211_52 : decode (mB 211) 52 = .ok (.iadd, 1) := by decide +kernel
theorem k211_53 : decode (mB 211) 53 = .ok (.iconst 2, 1) := by decide +kernel
theorem k211_54 : decode (mB 211) 54 = .ok (.iadd, 1) := by decide +kernel
theorem k211_55 : decode (mB 211) 55 = .ok (.iaload, 1) := by decide +kernel
theorem k211_56 : decode (mB 211) 56 = .ok (.ifCond .ne 22, 3) := by decide +kernel
theorem k211_59 : decode (mB 211) 59 = .ok (.iload_n 2, 1) := by decide +kernel
theorem k211_60 : decode (mB 211) 60 = .ok (.aload_n 0, 1) := by decide +kernel
theorem k211_61 : decode (mB 211) 61 = .ok (.getfield 31, 3) ∧ tF (mO 211) 31 = some (11, 15, 1, 1) := by decide +kernel
theorem k211_64 : decode (mB 211) 64 = .ok (.iconst 1, 1) := by decide +kernel
theorem k211_65 : decode (mB 211) 65 = .ok (.iaload, 1) := by decide +kernel
theorem k211_66 : decode (mB 211) 66 = .ok (.if_icmp .ge 12, 3) := by decide +kernel
theorem k211_69 : decode (mB 211) 69 = .ok (.aload_n 0, 1) := by decide +kernel
theorem k211_70 : decode (mB 211) 70 = .ok (.getfield 31, 3) ∧ tF (mO 211) 31 = some (11, 15, 1, 1) := by decide +kernel
theorem k211_73 : decode (mB 211) 73 = .ok (.iload_n 1, 1) := by decide +kernel
theorem k211_74 : decode (mB 211) 74 = .ok (.iload_n 2, 1) := by decide +kernel
theorem k211_75 : decode (mB 211) 75 = .ok (.invokestatic 177, 3) ∧ tM (mO 211) 177 = none ∧ tS (mO 211) 177 = some 188 := by decide +kernel
theorem k211_78 : decode (mB 211) 78 = .ok (.iinc 1 1, 3) := by decide +kernel
theorem k211_81 : decode (mB 211) 81 = .ok (.goto (-79), 3) := by decide +kernel
theorem k211_84 : decode (mB 211) 84 = .ok (.return_, 1) ∧ mR 211 = none := by decide +kernel
-- 212: ChairPastModel.caned:(III)I, locals 9
theorem l212 : mL 212 = 9 := by decide +kernel
theorem k212_0 : decode (mB 212) 0 = .ok (.aload_n 0, 1) := by decide +kernel
theorem k212_1 : decode (mB 212) 1 = .ok (.invokevirtual 185, 3) ∧ tVn (mO 212) 185 = some 0 ∧ tV (mO 212) 185 11 = some 181 := by decide +kernel
theorem k212_4 : decode (mB 212) 4 = .ok (.ifCond .ne 6, 3) := by decide +kernel
theorem k212_7 : decode (mB 212) 7 = .ok (.ldc 173, 2) ∧ tK (mO 212) 173 = some (-1000002) := by decide +kernel
theorem k212_9 : decode (mB 212) 9 = .ok (.ireturn, 1) ∧ mR 212 = (some .int) := by decide +kernel
theorem k212_10 : decode (mB 212) 10 = .ok (.iload_n 1, 1) := by decide +kernel
theorem k212_11 : decode (mB 212) 11 = .ok (.iconst 0, 1) := by decide +kernel
theorem k212_12 : decode (mB 212) 12 = .ok (.bipush 40, 2) := by decide +kernel
theorem k212_14 : decode (mB 212) 14 = .ok (.invokestatic 59, 3) ∧ tM (mO 212) 59 = none ∧ tS (mO 212) 59 = some 155 := by decide +kernel
theorem k212_17 : decode (mB 212) 17 = .ok (.ifCond .eq 22, 3) := by decide +kernel
theorem k212_20 : decode (mB 212) 20 = .ok (.iload_n 2, 1) := by decide +kernel
theorem k212_21 : decode (mB 212) 21 = .ok (.iconst 0, 1) := by decide +kernel
theorem k212_22 : decode (mB 212) 22 = .ok (.bipush 10, 2) := by decide +kernel
theorem k212_24 : decode (mB 212) 24 = .ok (.invokestatic 59, 3) ∧ tM (mO 212) 59 = none ∧ tS (mO 212) 59 = some 155 := by decide +kernel
theorem k212_27 : decode (mB 212) 27 = .ok (.ifCond .eq 12, 3) := by decide +kernel
theorem k212_30 : decode (mB 212) 30 = .ok (.iload_n 3, 1) := by decide +kernel
theorem k212_31 : decode (mB 212) 31 = .ok (.iconst 0, 1) := by decide +kernel
theorem k212_32 : decode (mB 212) 32 = .ok (.iconst 1, 1) := by decide +kernel
theorem k212_33 : decode (mB 212) 33 = .ok (.invokestatic 59, 3) ∧ tM (mO 212) 59 = none ∧ tS (mO 212) 59 = some 155 := by decide +kernel
theorem k212_36 : decode (mB 212) 36 = .ok (.ifCond .ne 6, 3) := by decide +kernel
theorem k212_39 : decode (mB 212) 39 = .ok (.ldc 67, 2) ∧ tK (mO 212) 67 = some (-1000001) := by decide +kernel
theorem k212_41 : decode (mB 212) 41 = .ok (.ireturn, 1) ∧ mR 212 = (some .int) := by decide +kernel
theorem k212_42 : decode (mB 212) 42 = .ok (.iconst 0, 1) := by decide +kernel
theorem k212_43 : decode (mB 212) 43 = .ok (.istore 4, 2) := by decide +kernel
theorem k212_45 : decode (mB 212) 45 = .ok (.iconst 1, 1) := by decide +kernel
theorem k212_46 : decode (mB 212) 46 = .ok (.istore 5, 2) := by decide +kernel
theorem k212_48 : decode (mB 212) 48 = .ok (.iconst 0, 1) := by decide +kernel
theorem k212_49 : decode (mB 212) 49 = .ok (.istore 6, 2) := by decide +kernel
theorem k212_51 : decode (mB 212) 51 = .ok (.iload 6, 2) := by decide +kernel
theorem k212_53 : decode (mB 212) 53 = .ok (.aload_n 0, 1) := by decide +kernel
theorem k212_54 : decode (mB 212) 54 = .ok (.getfield 25, 3) ∧ tF (mO 212) 25 = some (11, 13, 1, 1) := by decide +kernel
theorem k212_57 : decode (mB 212) 57 = .ok (.iconst 1, 1) := by decide +kernel
theorem k212_58 : decode (mB 212) 58 = .ok (.iaload, 1) := by decide +kernel
theorem k212_59 : decode (mB 212) 59 = .ok (.if_icmp .ge 16, 3) := by decide +kernel
theorem k212_62 : decode (mB 212) 62 = .ok (.iload 5, 2) := by decide +kernel
theorem k212_64 : decode (mB 212) 64 = .ok (.bipush 10, 2) := by decide +kernel
theorem k212_66 : decode (mB 212) 66 = .ok (.imul, 1) := by decide +kernel
theorem k212_67 : decode (mB 212) 67 = .ok (.istore 5, 2) := by decide +kernel
theorem k212_69 : decode (mB 212) 69 = .ok (.iinc 6 1, 3) := by decide +kernel
theorem k212_72 : decode (mB 212) 72 = .ok (.goto (-21), 3) := by decide +kernel
theorem k212_75 : decode (mB 212) 75 = .ok (.iconst 0, 1) := by decide +kernel
theorem k212_76 : decode (mB 212) 76 = .ok (.istore 6, 2) := by decide +kernel
theorem k212_78 : decode (mB 212) 78 = .ok (.iload 6, 2) := by decide +kernel
theorem k212_80 : decode (mB 212) 80 = .ok (.iconst 1, 1) := by decide +kernel
theorem k212_81 : decode (mB 212) 81 = .ok (.aload_n 0, 1) := by decide +kernel
theorem k212_82 : decode (mB 212) 82 = .ok (.getfield 25, 3) ∧ tF (mO 212) 25 = some (11, 13, 1, 1) := by decide +kernel
theorem k212_85 : decode (mB 212) 85 = .ok (.iconst 1, 1) := by decide +kernel
theorem k212_86 : decode (mB 212) 86 = .ok (.iaload, 1) := by decide +kernel
theorem k212_87 : decode (mB 212) 87 = .ok (.ishl, 1) := by decide +kernel
theorem k212_88 : decode (mB 212) 88 = .ok (.if_icmp .ge 134, 3) := by decide +kernel
theorem k212_91 : decode (mB 212) 91 = .ok (.iconst 1, 1) := by decide +kernel
theorem k212_92 : decode (mB 212) 92 = .ok (.istore 7, 2) := by decide +kernel
theorem k212_94 : decode (mB 212) 94 = .ok (.aload_n 0, 1) := by decide +kernel
theorem k212_95 : decode (mB 212) 95 = .ok (.getfield 25, 3) ∧ tF (mO 212) 25 = some (11, 13, 1, 1) := by decide +kernel
theorem k212_98 : decode (mB 212) 98 = .ok (.iconst 0, 1) := by decide +kernel
theorem k212_99 : decode (mB 212) 99 = .ok (.aload_n 0, 1) := by decide +kernel
theorem k212_100 : decode (mB 212) 100 = .ok (.getfield 31, 3) ∧ tF (mO 212) 31 = some (11, 15, 1, 1) := by decide +kernel
theorem k212_103 : decode (mB 212) 103 = .ok (.iconst 0, 1) := by decide +kernel
theorem k212_104 : decode (mB 212) 104 = .ok (.invokestatic 141, 3) ∧ tM (mO 212) 141 = none ∧ tS (mO 212) 141 = some 159 := by decide +kernel
theorem k212_107 : decode (mB 212) 107 = .ok (.iconst 0, 1) := by decide +kernel
theorem k212_108 : decode (mB 212) 108 = .ok (.istore 8, 2) := by decide +kernel
theorem k212_110 : decode (mB 212) 110 = .ok (.iload 8, 2) := by decide +kernel
theorem k212_112 : decode (mB 212) 112 = .ok (.aload_n 0, 1) := by decide +kernel
theorem k212_113 : decode (mB 212) 113 = .ok (.getfield 25, 3) ∧ tF (mO 212) 25 = some (11, 13, 1, 1) := by decide +kernel
theorem k212_116 : decode (mB 212) 116 = .ok (.iconst 1, 1) := by decide +kernel
theorem k212_117 : decode (mB 212) 117 = .ok (.iaload, 1) := by decide +kernel
theorem k212_118 : decode (mB 212) 118 = .ok (.if_icmp .ge 72, 3) := by decide +kernel
theorem k212_121 : decode (mB 212) 121 = .ok (.iload 7, 2) := by decide +kernel
theorem k212_123 : decode (mB 212) 123 = .ok (.iload 6, 2) := by decide +kernel
theorem k212_125 : decode (mB 212) 125 = .ok (.iload 8, 2) := by decide +kernel
theorem k212_127 : decode (mB 212) 127 = .ok (.invokestatic 198, 3) ∧ tM (mO 212) 198 = none ∧ tS (mO 212) 198 = some 156 := by decide +kernel
theorem k212_130 : decode (mB 212) 130 = .ok (.ifCond .eq 7, 3) := by decide +kernel
theorem k212_133 : decode (mB 212) 133 = .ok (.iload_n 2, 1) := by decide +kernel
theorem k212_134 : decode (mB 212) 134 = .ok (.goto 7, 3) := by decide +kernel
theorem k212_137 : decode (mB 212) 137 = .ok (.bipush 10, 2) := by decide +kernel
theorem k212_139 : decode (mB 212) 139 = .ok (.iload_n 2, 1) := by decide +kernel
theorem k212_140 : decode (mB 212) 140 = .ok (.isub, 1) := by decide +kernel
theorem k212_141 : decode (mB 212) 141 = .ok (.imul, 1) := by decide +kernel
theorem k212_142 : decode (mB 212) 142 = .ok (.istore 7, 2) := by decide +kernel
theorem k212_144 : decode (mB 212) 144 = .ok (.aload_n 0, 1) := by decide +kernel
theorem k212_145 : decode (mB 212) 145 = .ok (.getfield 31, 3) ∧ tF (mO 212) 31 = some (11, 15, 1, 1) := by decide +kernel
theorem k212_148 : decode (mB 212) 148 = .ok (.iconst 3, 1) := by decide +kernel
theorem k212_149 : decode (mB 212) 149 = .ok (.iconst 5, 1) := by decide +kernel
theorem k212_150 : decode (mB 212) 150 = .ok (.iload 8, 2) := by decide +kernel
theorem k212_152 : decode (mB 212) 152 = .ok (.imul, 1) := by decide +kernel
theorem k212_153 : decode (mB 212) 153 = .ok (.iadd, 1) := by decide +kernel
theorem k212_154 : decode (mB 212) 154 = .ok (.iconst 2, 1) := by decide +kernel
theorem k212_155 : decode (mB 212) 155 = .ok (.iadd, 1) := by decide +kernel
theorem k212_156 : decode (mB 212) 156 = .ok (.iload 6, 2) := by decide +kernel
theorem k212_158 : decode (mB 212) 158 = .ok (.iload 8, 2) := by decide +kernel
theorem k212_160 : decode (mB 212) 160 = .ok (.invokestatic 198, 3) ∧ tM (mO 212) 198 = none ∧ tS (mO 212) 198 = some 156 := by decide +kernel
theorem k212_163 : decode (mB 212) 163 = .ok (.ifCond .eq 7, 3) := by decide +kernel
theorem k212_166 : decode (mB 212) 166 = .ok (.iconst 0, 1) := by decide +kernel
theorem k212_167 : decode (mB 212) 167 = .ok (.goto 16, 3) := by decide +kernel
theorem k212_170 : decode (mB 212) 170 = .ok (.aload_n 0, 1) := by decide +kernel
theorem k212_171 : decode (mB 212) 171 = .ok (.getfield 25, 3) ∧ tF (mO 212) 25 = some (11, 13, 1, 1) := by decide +kernel
theorem k212_174 : decode (mB 212) 174 = .ok (.iconst 3, 1) := by decide +kernel
theorem k212_175 : decode (mB 212) 175 = .ok (.iconst 5, 1) := by decide +kernel
theorem k212_176 : decode (mB 212) 176 = .ok (.iload 8, 2) := by decide +kernel
theorem k212_178 : decode (mB 212) 178 = .ok (.imul, 1) := by decide +kernel
theorem k212_179 : decode (mB 212) 179 = .ok (.iadd, 1) := by decide +kernel
theorem k212_180 : decode (mB 212) 180 = .ok (.iconst 2, 1) := by decide +kernel
theorem k212_181 : decode (mB 212) 181 = .ok (.iadd, 1) := by decide +kernel
theorem k212_182 : decode (mB 212) 182 = .ok (.iaload, 1) := by decide +kernel
theorem k212_183 : decode (mB 212) 183 = .ok (.iastore, 1) := by decide +kernel
theorem k212_184 : decode (mB 212) 184 = .ok (.iinc 8 1, 3) := by decide +kernel
theorem k212_187 : decode (mB 212) 187 = .ok (.goto (-77), 3) := by decide +kernel
theorem k212_190 : decode (mB 212) 190 = .ok (.aload_n 0, 1) := by decide +kernel
theorem k212_191 : decode (mB 212) 191 = .ok (.invokevirtual 201, 3) ∧ tVn (mO 212) 201 = some 0 ∧ tV (mO 212) 201 11 = some 211 := by decide +kernel
theorem k212_194 : decode (mB 212) 194 = .ok (.iload 4, 2) := by decide +kernel
theorem k212_196 : decode (mB 212) 196 = .ok (.aload_n 0, 1) := by decide +kernel
theorem k212_197 : decode (mB 212) 197 = .ok (.getfield 31, 3) ∧ tF (mO 212) 31 = some (11, 15, 1, 1) := by decide +kernel
theorem k212_200 : decode (mB 212) 200 = .ok (.invokestatic 181, 3) ∧ tM (mO 212) 181 = none ∧ tS (mO 212) 181 = some 189 := by decide +kernel
theorem k212_203 : decode (mB 212) 203 = .ok (.iload_n 1, 1) := by decide +kernel
theorem k212_204 : decode (mB 212) 204 = .ok (.if_icmp .lt 8, 3) := by decide +kernel
theorem k212_207 : decode (mB 212) 207 = .ok (.iload 7, 2) := by decide +kernel
theorem k212_209 : decode (mB 212) 209 = .ok (.goto 4, 3) := by decide +kernel
theorem k212_212 : decode (mB 212) 212 = .ok (.iconst 0, 1) := by decide +kernel
theorem k212_213 : decode (mB 212) 213 = .ok (.iadd, 1) := by decide +kernel
theorem k212_214 : decode (mB 212) 214 = .ok (.istore 4, 2) := by decide +kernel
theorem k212_216 : decode (mB 212) 216 = .ok (.iinc 6 1, 3) := by decide +kernel
theorem k212_219 : decode (mB 212) 219 = .ok (.goto (-141), 3) := by decide +kernel
theorem k212_222 : decode (mB 212) 222 = .ok (.iload 4, 2) := by decide +kernel
theorem k212_224 : decode (mB 212) 224 = .ok (.istore 6, 2) := by decide +kernel
theorem k212_226 : decode (mB 212) 226 = .ok (.iload 5, 2) := by decide +kernel
theorem k212_228 : decode (mB 212) 228 = .ok (.istore 7, 2) := by decide +kernel
theorem k212_230 : decode (mB 212) 230 = .ok (.iload 7, 2) := by decide +kernel
theorem k212_232 : decode (mB 212) 232 = .ok (.ifCond .eq 21, 3) := by decide +kernel
theorem k212_235 : decode (mB 212) 235 = .ok (.iload 6, 2) := by decide +kernel
theorem k212_237 : decode (mB 212) 237 = .ok (.iload 7, 2) := by decide +kernel
theorem k212_239 : decode (mB 212) 239 = .ok (.irem, 1) := by decide +kernel
theorem k212_240 : decode (mB 212) 240 = .ok (.istore 8, 2) := by decide +kernel
theorem k212_242 : decode (mB 212) 242 = .ok (.iload 7, 2) := by decide +kernel
theorem k212_244 : decode (mB 212) 244 = .ok (.istore 6, 2) := by decide +kernel
theorem k212_246 : decode (mB 212) 246 = .ok (.iload 8, 2) := by decide +kernel
theorem k212_248 : decode (mB 212) 248 = .ok (.istore 7, 2) := by decide +kernel
theorem k212_250 : decode (mB 212) 250 = .ok (.goto (-20), 3) := by decide +kernel
theorem k212_253 : decode (mB 212) 253 = .ok (.iload_n 3, 1) := by decide +kernel
theorem k212_254 : decode (mB 212) 254 = .ok (.ifCond .ne 8, 3) := by decide +kernel
theorem k212_257 : decode (mB 212) 257 = .ok (.iload 4, 2) := by decide +kernel
theorem k212_259 : decode (mB 212) 259 = .ok (.goto 5, 3) := by decide +kernel
theorem k212_262 : decode (mB 212) 262 = .ok (.iload 5, 2) := by decide +kernel
theorem k212_264 : decode (mB 212) 264 = .ok (.iload 6, 2) := by decide +kernel
theorem k212_266 : decode (mB 212) 266 = .ok (.idiv, 1) := by decide +kernel
theorem k212_267 : decode (mB 212) 267 = .ok (.ireturn, 1) ∧ mR 212 = (some .int) := by decide +kernel
-- 213: ChairPastModel.drawn:(III)I, locals 9
theorem l213 : mL 213 = 9 := by decide +kernel
theorem k213_0 : decode (mB 213) 0 = .ok (.aload_n 0, 1) := by decide +kernel
theorem k213_1 : decode (mB 213) 1 = .ok (.invokevirtual 185, 3) ∧ tVn (mO 213) 185 = some 0 ∧ tV (mO 213) 185 11 = some 181 := by decide +kernel
theorem k213_4 : decode (mB 213) 4 = .ok (.ifCond .ne 6, 3) := by decide +kernel
theorem k213_7 : decode (mB 213) 7 = .ok (.ldc 173, 2) ∧ tK (mO 213) 173 = some (-1000002) := by decide +kernel
theorem k213_9 : decode (mB 213) 9 = .ok (.ireturn, 1) ∧ mR 213 = (some .int) := by decide +kernel
theorem k213_10 : decode (mB 213) 10 = .ok (.iload_n 1, 1) := by decide +kernel
theorem k213_11 : decode (mB 213) 11 = .ok (.iconst 0, 1) := by decide +kernel
theorem k213_12 : decode (mB 213) 12 = .ok (.bipush 60, 2) := by decide +kernel
theorem k213_14 : decode (mB 213) 14 = .ok (.invokestatic 59, 3) ∧ tM (mO 213) 59 = none ∧ tS (mO 213) 59 = some 155 := by decide +kernel
theorem k213_17 : decode (mB 213) 17 = .ok (.ifCond .eq 22, 3) := by decide +kernel
theorem k213_20 : decode (mB 213) 20 = .ok (.iload_n 2, 1) := by decide +kernel
theorem k213_21 : decode (mB 213) 21 = .ok (.iconst 1, 1) := by decide +kernel
theorem k213_22 : decode (mB 213) 22 = .ok (.ldc 204, 2) ∧ tK (mO 213) 204 = some (999999) := by decide +kernel
theorem k213_24 : decode (mB 213) 24 = .ok (.invokestatic 59, 3) ∧ tM (mO 213) 59 = none ∧ tS (mO 213) 59 = some 155 := by decide +kernel
theorem k213_27 : decode (mB 213) 27 = .ok (.ifCond .eq 12, 3) := by decide +kernel
theorem k213_30 : decode (mB 213) 30 = .ok (.iload_n 3, 1) := by decide +kernel
theorem k213_31 : decode (mB 213) 31 = .ok (.iconst 0, 1) := by decide +kernel
theorem k213_32 : decode (mB 213) 32 = .ok (.iconst 1, 1) := by decide +kernel
theorem k213_33 : decode (mB 213) 33 = .ok (.invokestatic 59, 3) ∧ tM (mO 213) 59 = none ∧ tS (mO 213) 59 = some 155 := by decide +kernel
theorem k213_36 : decode (mB 213) 36 = .ok (.ifCond .ne 6, 3) := by decide +kernel
theorem k213_39 : decode (mB 213) 39 = .ok (.ldc 67, 2) ∧ tK (mO 213) 67 = some (-1000001) := by decide +kernel
theorem k213_41 : decode (mB 213) 41 = .ok (.ireturn, 1) ∧ mR 213 = (some .int) := by decide +kernel
theorem k213_42 : decode (mB 213) 42 = .ok (.aload_n 0, 1) := by decide +kernel
theorem k213_43 : decode (mB 213) 43 = .ok (.getfield 25, 3) ∧ tF (mO 213) 25 = some (11, 13, 1, 1) := by decide +kernel
theorem k213_46 : decode (mB 213) 46 = .ok (.iconst 0, 1) := by decide +kernel
theorem k213_47 : decode (mB 213) 47 = .ok (.aload_n 0, 1) := by decide +kernel
theorem k213_48 : decode (mB 213) 48 = .ok (.getfield 31, 3) ∧ tF (mO 213) 31 = some (11, 15, 1, 1) := by decide +kernel
theorem k213_51 : decode (mB 213) 51 = .ok (.iconst 0, 1) := by decide +kernel
theorem k213_52 : decode (mB 213) 52 = .ok (.invokestatic 141, 3) ∧ tM (mO 213) 141 = none ∧ tS (mO 213) 141 = some 159 := by decide +kernel
theorem k213_55 : decode (mB 213) 55 = .ok (.iload_n 2, 1) := by decide +kernel
theorem k213_56 : decode (mB 213) 56 = .ok (.i2l, 1) := by decide +kernel
theorem k213_57 : decode (mB 213) 57 = .ok (.lstore 4, 2) := by decide +kernel
theorem k213_59 : decode (mB 213) 59 = .ok (.iconst 0, 1) := by decide +kernel
theorem k213_60 : decode (mB 213) 60 = .ok (.istore 6, 2) := by decide +kernel
theorem k213_62 : decode (mB 213) 62 = .ok (.iconst 0, 1) := by decide +kernel
theorem k213_63 : decode (mB 213) 63 = .ok (.istore 7, 2) := by decide +kernel
theorem k213_65 : decode (mB 213) 65 = .ok (.iload 7, 2) := by decide +kernel
theorem k213_67 : decode (mB 213) 67 = .ok (.iload_n 1, 1) := by decide +kernel
theorem k213_68 : decode (mB 213) 68 = .ok (.if_icmp .ge 64, 3) := by decide +kernel
theorem k213_71 : decode (mB 213) 71 = .ok (.aload_n 0, 1) := by decide +kernel
theorem k213_72 : decode (mB 213) 72 = .ok (.getfield 25, 3) ∧ tF (mO 213) 25 = some (11, 13, 1, 1) := by decide +kernel
theorem k213_75 : decode (mB 213) 75 = .ok (.iconst 2, 1) := by decide +kernel
theorem k213_76 : decode (mB 213) 76 = .ok (.iaload, 1) := by decide +kernel
theorem k213_77 : decode (mB 213) 77 = .ok (.ifCond .le 55, 3) := by decide +kernel
theorem k213_80 : decode (mB 213) 80 = .ok (.lload 4, 2) := by decide +kernel
theorem k213_82 : decode (mB 213) 82 = .ok (.ldc2_w 205, 3) ∧ tKK (mO 213) 205 = some (16807) := by decide +kernel
theorem k213_85 : decode (mB 213) 85 = .ok (.lmul, 1) := by decide +kernel
theorem k213_86 : decode (mB 213) 86 = .ok (.ldc2_w 207, 3) ∧ tKK (mO 213) 207 = some (2147483647) := by decide +kernel
theorem k213_89 : decode (mB 213) 89 = .ok (.lrem, 1) := by decide +kernel
theorem k213_90 : decode (mB 213) 90 = .ok (.lstore 4, 2) := by decide +kernel
theorem k213_92 : decode (mB 213) 92 = .ok (.iload 6, 2) := by decide +kernel
theorem k213_94 : decode (mB 213) 94 = .ok (.aload_n 0, 1) := by decide +kernel
theorem k213_95 : decode (mB 213) 95 = .ok (.getfield 31, 3) ∧ tF (mO 213) 31 = some (11, 15, 1, 1) := by decide +kernel
theorem k213_98 : decode (mB 213) 98 = .ok (.lload 4, 2) := by decide +kernel
theorem k213_100 : decode (mB 213) 100 = .ok (.aload_n 0, 1) := by decide +kernel
theorem k213_101 : decode (mB 213) 101 = .ok (.getfield 25, 3) ∧ tF (mO 213) 25 = some (11, 13, 1, 1) := by decide +kernel
theorem k213_104 : decode (mB 213) 104 = .ok (.iconst 2, 1) := by decide +kernel
theorem k213_105 : decode (mB 213) 105 = .ok (.iaload, 1) := by decide +kernel
theorem k213_106 : decode (mB 213) 106 = .ok (.i2l, 1) := by decide +kernel
theorem k213_107 : decode (mB 213) 107 = .ok (.lrem, 1) := by decide +kernel
theorem k213_108 : decode (mB 213) 108 = .ok (.l2i, 1) := by decide +kernel
theorem k213_109 : decode (mB 213) 109 = .ok (.lload 4, 2) := by decide +kernel
theorem k213_111 : decode (mB 213) 111 = .ok (.aload_n 0, 1) := by decide +kernel
theorem k213_112 : decode (mB 213) 112 = .ok (.getfield 25, 3) ∧ tF (mO 213) 25 = some (11, 13, 1, 1) := by decide +kernel
theorem k213_115 : decode (mB 213) 115 = .ok (.iconst 1, 1) := by decide +kernel
theorem k213_116 : decode (mB 213) 116 = .ok (.iaload, 1) := by decide +kernel
theorem k213_117 : decode (mB 213) 117 = .ok (.i2l, 1) := by decide +kernel
theorem k213_118 : decode (mB 213) 118 = .ok (.lrem, 1) := by decide +kernel
theorem k213_119 : decode (mB 213) 119 = .ok (.l2i, 1) := by decide +kernel
theorem k213_120 : decode (mB 213) 120 = .ok (.invokestatic 156, 3) ∧ tM (mO 213) 156 = none ∧ tS (mO 213) 156 = some 186 := by decide +kernel
theorem k213_123 : decode (mB 213) 123 = .ok (.iadd, 1) := by decide +kernel
theorem k213_124 : decode (mB 213) 124 = .ok (.istore 6, 2) := by decide +kernel
theorem k213_126 : decode (mB 213) 126 = .ok (.iinc 7 1, 3) := by decide +kernel
theorem k213_129 : decode (mB 213) 129 = .ok (.goto (-64), 3) := by decide +kernel
theorem k213_132 : decode (mB 213) 132 = .ok (.iconst 0, 1) := by decide +kernel
theorem k213_133 : decode (mB 213) 133 = .ok (.istore 7, 2) := by decide +kernel
theorem k213_135 : decode (mB 213) 135 = .ok (.iconst 0, 1) := by decide +kernel
theorem k213_136 : decode (mB 213) 136 = .ok (.istore 8, 2) := by decide +kernel
theorem k213_138 : decode (mB 213) 138 = .ok (.iload 8, 2) := by decide +kernel
theorem k213_140 : decode (mB 213) 140 = .ok (.aload_n 0, 1) := by decide +kernel
theorem k213_141 : decode (mB 213) 141 = .ok (.getfield 25, 3) ∧ tF (mO 213) 25 = some (11, 13, 1, 1) := by decide +kernel
theorem k213_144 : decode (mB 213) 144 = .ok (.iconst 1, 1) := by decide +kernel
theorem k213_145 : decode (mB 213) 145 = .ok (.iaload, 1) := by decide +kernel
theorem k213_146 : decode (mB 213) 146 = .ok (.if_icmp .ge 27, 3) := by decide +kernel
theorem k213_149 : decode (mB 213) 149 = .ok (.iload 7, 2) := by decide +kernel
theorem k213_151 : decode (mB 213) 151 = .ok (.aload_n 0, 1) := by decide +kernel
theorem k213_152 : decode (mB 213) 152 = .ok (.getfield 31, 3) ∧ tF (mO 213) 31 = some (11, 15, 1, 1) := by decide +kernel
theorem k213_155 : decode (mB 213) 155 = .ok (.iconst 3, 1) := by decide +kernel
theorem k213_156 : decode (mB 213) 156 = .ok (.iconst 5, 1) := by decide +kernel
theorem k213_157 : decode (mB 213) 157 = .ok (.iload 8, 2) := by decide +kernel
theorem k213_159 : decode (mB 213) 159 = .ok (.imul, 1) := by decide +kernel
theorem k213_160 : decode (mB 213) 160 = .ok (.iadd, 1) := by decide +kernel
theorem k213_161 : decode (mB 213) 161 = .ok (.iconst 1, 1) := by decide +kernel
theorem k213_162 : decode (mB 213) 162 = .ok (.iadd, 1) := by decide +kernel
theorem k213_163 : decode (mB 213) 163 = .ok (.iaload, 1) := by decide +kernel
theorem k213_164 : decode (mB 213) 164 = .ok (.iadd, 1) := by decide +kernel
theorem k213_165 : decode (mB 213) 165 = .ok (.istore 7, 2) := by decide +kernel
theorem k213_167 : decode (mB 213) 167 = .ok (.iinc 8 1, 3) := by decide +kernel
theorem k213_170 : decode (mB 213) 170 = .ok (.goto (-32), 3) := by decide +kernel
theorem k213_173 : decode (mB 213) 173 = .ok (.iload_n 3, 1) := by decide +kernel
theorem k213_174 : decode (mB 213) 174 = .ok (.ifCond .ne 8, 3) := by decide +kernel
theorem k213_177 : decode (mB 213) 177 = .ok (.iload 6, 2) := by decide +kernel
theorem k213_179 : decode (mB 213) 179 = .ok (.goto 5, 3) := by decide +kernel
theorem k213_182 : decode (mB 213) 182 = .ok (.iload 7, 2) := by decide +kernel
theorem k213_184 : decode (mB 213) 184 = .ok (.ireturn, 1) ∧ mR 213 = (some .int) := by decide +kernel
-- 214: ChairPastModel.image:(I)I, locals 2
theorem l214 : mL 214 = 2 := by decide +kernel
theorem k214_0 : decode (mB 214) 0 = .ok (.iload_n 1, 1) := by decide +kernel
theorem k214_1 : decode (mB 214) 1 = .ok (.iconst 0, 1) := by decide +kernel
theorem k214_2 : decode (mB 214) 2 = .ok (.iconst 1, 1) := by decide +kernel
theorem k214_3 : decode (mB 214) 3 = .ok (.invokestatic 59, 3) ∧ tM (mO 214) 59 = none ∧ tS (mO 214) 59 = some 155 := by decide +kernel
theorem k214_6 : decode (mB 214) 6 = .ok (.ifCond .ne 6, 3) := by decide +kernel
theorem k214_9 : decode (mB 214) 9 = .ok (.ldc 67, 2) ∧ tK (mO 214) 67 = some (-1000001) := by decide +kernel
theorem k214_11 : decode (mB 214) 11 = .ok (.ireturn, 1) ∧ mR 214 = (some .int) := by decide +kernel
theorem k214_12 : decode (mB 214) 12 = .ok (.aload_n 0, 1) := by decide +kernel
theorem k214_13 : decode (mB 214) 13 = .ok (.invokevirtual 185, 3) ∧ tVn (mO 214) 185 = some 0 ∧ tV (mO 214) 185 11 = some 181 := by decide +kernel
theorem k214_16 : decode (mB 214) 16 = .ok (.ifCond .ne 6, 3) := by decide +kernel
theorem k214_19 : decode (mB 214) 19 = .ok (.ldc 173, 2) ∧ tK (mO 214) 173 = some (-1000002) := by decide +kernel
theorem k214_21 : decode (mB 214) 21 = .ok (.ireturn, 1) ∧ mR 214 = (some .int) := by decide +kernel
theorem k214_22 : decode (mB 214) 22 = .ok (.aload_n 0, 1) := by decide +kernel
theorem k214_23 : decode (mB 214) 23 = .ok (.getfield 25, 3) ∧ tF (mO 214) 25 = some (11, 13, 1, 1) := by decide +kernel
theorem k214_26 : decode (mB 214) 26 = .ok (.iconst 0, 1) := by decide +kernel
theorem k214_27 : decode (mB 214) 27 = .ok (.aload_n 0, 1) := by decide +kernel
theorem k214_28 : decode (mB 214) 28 = .ok (.getfield 37, 3) ∧ tF (mO 214) 37 = some (11, 18, 1, 1) := by decide +kernel
theorem k214_31 : decode (mB 214) 31 = .ok (.bipush 48, 2) := by decide +kernel
theorem k214_33 : decode (mB 214) 33 = .ok (.iload_n 1, 1) := by decide +kernel
theorem k214_34 : decode (mB 214) 34 = .ok (.imul, 1) := by decide +kernel
theorem k214_35 : decode (mB 214) 35 = .ok (.invokestatic 141, 3) ∧ tM (mO 214) 141 = none ∧ tS (mO 214) 141 = some 159 := by decide +kernel
theorem k214_38 : decode (mB 214) 38 = .ok (.aload_n 0, 1) := by decide +kernel
theorem k214_39 : decode (mB 214) 39 = .ok (.getfield 40, 3) ∧ tF (mO 214) 40 = some (11, 19, 1, 1) := by decide +kernel
theorem k214_42 : decode (mB 214) 42 = .ok (.iload_n 1, 1) := by decide +kernel
theorem k214_43 : decode (mB 214) 43 = .ok (.iconst 1, 1) := by decide +kernel
theorem k214_44 : decode (mB 214) 44 = .ok (.bastore, 1) := by decide +kernel
theorem k214_45 : decode (mB 214) 45 = .ok (.iconst 1, 1) := by decide +kernel
theorem k214_46 : decode (mB 214) 46 = .ok (.ireturn, 1) ∧ mR 214 = (some .int) := by decide +kernel
-- 215: ChairPastModel.restore:(I)I, locals 2
theorem l215 : mL 215 = 2 := by decide +kernel
theorem k215_0 : decode (mB 215) 0 = .ok (.iload_n 1, 1) := by decide +kernel
theorem k215_1 : decode (mB 215) 1 = .ok (.iconst 0, 1) := by decide +kernel
theorem k215_2 : decode (mB 215) 2 = .ok (.iconst 1, 1) := by decide +kernel
theorem k215_3 : decode (mB 215) 3 = .ok (.invokestatic 59, 3) ∧ tM (mO 215) 59 = none ∧ tS (mO 215) 59 = some 155 := by decide +kernel
theorem k215_6 : decode (mB 215) 6 = .ok (.ifCond .ne 6, 3) := by decide +kernel
theorem k215_9 : decode (mB 215) 9 = .ok (.ldc 67, 2) ∧ tK (mO 215) 67 = some (-1000001) := by decide +kernel
theorem k215_11 : decode (mB 215) 11 = .ok (.ireturn, 1) ∧ mR 215 = (some .int) := by decide +kernel
theorem k215_12 : decode (mB 215) 12 = .ok (.aload_n 0, 1) := by decide +kernel
theorem k215_13 : decode (mB 215) 13 = .ok (.getfield 40, 3) ∧ tF (mO 215) 40 = some (11, 19, 1, 1) := by decide +kernel
theorem k215_16 : decode (mB 215) 16 = .ok (.iload_n 1, 1) := by decide +kernel
theorem k215_17 : decode (mB 215) 17 = .ok (.baload, 1) := by decide +kernel
theorem k215_18 : decode (mB 215) 18 = .ok (.ifCond .ne 6, 3) := by decide +kernel
theorem k215_21 : decode (mB 215) 21 = .ok (.ldc 173, 2) ∧ tK (mO 215) 173 = some (-1000002) := by decide +kernel
theorem k215_23 : decode (mB 215) 23 = .ok (.ireturn, 1) ∧ mR 215 = (some .int) := by decide +kernel
theorem k215_24 : decode (mB 215) 24 = .ok (.aload_n 0, 1) := by decide +kernel
theorem k215_25 : decode (mB 215) 25 = .ok (.getfield 37, 3) ∧ tF (mO 215) 37 = some (11, 18, 1, 1) := by decide +kernel
theorem k215_28 : decode (mB 215) 28 = .ok (.bipush 48, 2) := by decide +kernel
theorem k215_30 : decode (mB 215) 30 = .ok (.iload_n 1, 1) := by decide +kernel
theorem k215_31 : decode (mB 215) 31 = .ok (.imul, 1) := by decide +kernel
theorem k215_32 : decode (mB 215) 32 = .ok (.aload_n 0, 1) := by decide +kernel
theorem k215_33 : decode (mB 215) 33 = .ok (.getfield 25, 3) ∧ tF (mO 215) 25 = some (11, 13, 1, 1) := by decide +kernel
theorem k215_36 : decode (mB 215) 36 = .ok (.iconst 0, 1) := by decide +kernel
theorem k215_37 : decode (mB 215) 37 = .ok (.invokestatic 141, 3) ∧ tM (mO 215) 141 = none ∧ tS (mO 215) 141 = some 159 := by decide +kernel
theorem k215_40 : decode (mB 215) 40 = .ok (.aload_n 0, 1) := by decide +kernel
theorem k215_41 : decode (mB 215) 41 = .ok (.iconst 0, 1) := by decide +kernel
theorem k215_42 : decode (mB 215) 42 = .ok (.putfield 145, 3) ∧ tF (mO 215) 145 = some (11, 17, 0, 0) := by decide +kernel
theorem k215_45 : decode (mB 215) 45 = .ok (.iconst 1, 1) := by decide +kernel
theorem k215_46 : decode (mB 215) 46 = .ok (.ireturn, 1) ∧ mR 215 = (some .int) := by decide +kernel
-- 216: ChairPastModel.kindIn:(I)I, locals 2
theorem l216 : mL 216 = 2 := by decide +kernel
theorem k216_0 : decode (mB 216) 0 = .ok (.aload_n 0, 1) := by decide +kernel
theorem k216_1 : decode (mB 216) 1 = .ok (.getfield 25, 3) ∧ tF (mO 216) 25 = some (11, 13, 1, 1) := by decide +kernel
theorem k216_4 : decode (mB 216) 4 = .ok (.iconst 3, 1) := by decide +kernel
theorem k216_5 : decode (mB 216) 5 = .ok (.iconst 5, 1) := by decide +kernel
theorem k216_6 : decode (mB 216) 6 = .ok (.iload_n 1, 1) := by decide +kernel
theorem k216_7 : decode (mB 216) 7 = .ok (.imul, 1) := by decide +kernel
theorem k216_8 : decode (mB 216) 8 = .ok (.iadd, 1) := by decide +kernel
theorem k216_9 : decode (mB 216) 9 = .ok (.iaload, 1) := by decide +kernel
theorem k216_10 : decode (mB 216) 10 = .ok (.ireturn, 1) ∧ mR 216 = (some .int) := by decide +kernel
-- 217: ChairPastModel.kind:(I)I, locals 2
theorem l217 : mL 217 = 2 := by decide +kernel
theorem k217_0 : decode (mB 217) 0 = .ok (.aload_n 0, 1) := by decide +kernel
theorem k217_1 : decode (mB 217) 1 = .ok (.iload_n 1, 1) := by decide +kernel
theorem k217_2 : decode (mB 217) 2 = .ok (.invokevirtual 170, 3) ∧ tVn (mO 217) 170 = some 1 ∧ tV (mO 217) 170 11 = some 182 := by decide +kernel
theorem k217_5 : decode (mB 217) 5 = .ok (.ifCond .eq 11, 3) := by decide +kernel
theorem k217_8 : decode (mB 217) 8 = .ok (.aload_n 0, 1) := by decide +kernel
theorem k217_9 : decode (mB 217) 9 = .ok (.iload_n 1, 1) := by decide +kernel
theorem k217_10 : decode (mB 217) 10 = .ok (.invokevirtual 209, 3) ∧ tVn (mO 217) 209 = some 1 ∧ tV (mO 217) 209 11 = some 216 := by decide +kernel
theorem k217_13 : decode (mB 217) 13 = .ok (.goto 5, 3) := by decide +kernel
theorem k217_16 : decode (mB 217) 16 = .ok (.ldc 67, 2) ∧ tK (mO 217) 67 = some (-1000001) := by decide +kernel
theorem k217_18 : decode (mB 217) 18 = .ok (.ireturn, 1) ∧ mR 217 = (some .int) := by decide +kernel
-- 218: ChairPastModel.as:(II)I, locals 5
theorem l218 : mL 218 = 5 := by decide +kernel
theorem k218_0 : decode (mB 218) 0 = .ok (.aload_n 0, 1) := by decide +kernel
theorem k218_1 : decode (mB 218) 1 = .ok (.iload_n 1, 1) := by decide +kernel
theorem k218_2 : decode (mB 218) 2 = .ok (.invokevirtual 170, 3) ∧ tVn (mO 218) 170 = some 1 ∧ tV (mO 218) 170 11 = some 182 := by decide +kernel
theorem k218_5 : decode (mB 218) 5 = .ok (.ifCond .eq 12, 3) := by decide +kernel
theorem k218_8 : decode (mB 218) 8 = .ok (.iload_n 2, 1) := by decide +kernel
theorem k218_9 : decode (mB 218) 9 = .ok (.iconst 0, 1) := by decide +kernel
theorem k218_10 : decode (mB 218) 10 = .ok (.iconst 5, 1) := by decide +kernel
theorem k218_11 : decode (mB 218) 11 = .ok (.invokestatic 59, 3) ∧ tM (mO 218) 59 = none ∧ tS (mO 218) 59 = some 155 := by decide +kernel
theorem k218_14 : decode (mB 218) 14 = .ok (.ifCond .ne 6, 3) := by decide +kernel
theorem k218_17 : decode (mB 218) 17 = .ok (.ldc 67, 2) ∧ tK (mO 218) 67 = some (-1000001) := by decide +kernel
theorem k218_19 : decode (mB 218) 19 = .ok (.ireturn, 1) ∧ mR 218 = (some .int) := by decide +kernel
theorem k218_20 : decode (mB 218) 20 = .ok (.aload_n 0, 1) := by decide +kernel
theorem k218_21 : decode (mB 218) 21 = .ok (.iload_n 1, 1) := by decide +kernel
theorem k218_22 : decode (mB 218) 22 = .ok (.invokevirtual 209, 3) ∧ tVn (mO 218) 209 = some 1 ∧ tV (mO 218) 209 11 = some 216 := by decide +kernel
theorem k218_25 : decode (mB 218) 25 = .ok (.istore_n 3, 1) := by decide +kernel
theorem k218_26 : decode (mB 218) 26 = .ok (.iload_n 2, 1) := by decide +kernel
theorem k218_27 : decode (mB 218) 27 = .ok (.ifCond .eq 28, 3) := by decide +kernel
theorem k218_30 : decode (mB 218) 30 = .ok (.iload_n 2, 1) := by decide +kernel
theorem k218_31 : decode (mB 218) 31 = .ok (.iload_n 3, 1) := by decide +kernel
theorem k218_32 : decode (mB 218) 32 = .ok (.if_icmp .eq 23, 3) := by decide +kernel
theorem k218_35 : decode (mB 218) 35 = .ok (.iload_n 2, 1) := by decide +kernel
theorem k218_36 : decode (mB 218) 36 = .ok (.iconst 1, 1) := by decide +kernel
theorem k218_37 : decode (mB 218) 37 = .ok (.if_icmp .ne 8, 3) := by decide +kernel
theorem k218_40 : decode (mB 218) 40 = .ok (.iload_n 3, 1) := by decide +kernel
theorem k218_41 : decode (mB 218) 41 = .ok (.iconst 4, 1) := by decide +kernel
theorem k218_42 : decode (mB 218) 42 = .ok (.if_icmp .lt 13, 3) := by decide +kernel
theorem k218_45 : decode (mB 218) 45 = .ok (.iload_n 2, 1) := by decide +kernel
theorem k218_46 : decode (mB 218) 46 = .ok (.iconst 4, 1) := by decide +kernel
theorem k218_47 : decode (mB 218) 47 = .ok (.if_icmp .ne 12, 3) := by decide +kernel
theorem k218_50 : decode (mB 218) 50 = .ok (.iload_n 3, 1) := by decide +kernel
theorem k218_51 : decode (mB 218) 51 = .ok (.iconst 5, 1) := by decide +kernel
theorem k218_52 : decode (mB 218) 52 = .ok (.if_icmp .ne 7, 3) := by decide +kernel
theorem k218_55 : decode (mB 218) 55 = .ok (.iconst 1, 1) := by decide +kernel
theorem k218_56 : decode (mB 218) 56 = .ok (.goto 4, 3) := by decide +kernel
theorem k218_59 : decode (mB 218) 59 = .ok (.iconst 0, 1) := by decide +kernel
theorem k218_60 : decode (mB 218) 60 = .ok (.istore 4, 2) := by decide +kernel
theorem k218_62 : decode (mB 218) 62 = .ok (.iload 4, 2) := by decide +kernel
theorem k218_64 : decode (mB 218) 64 = .ok (.ifCond .eq 11, 3) := by decide +kernel
theorem k218_67 : decode (mB 218) 67 = .ok (.aload_n 0, 1) := by decide +kernel
theorem k218_68 : decode (mB 218) 68 = .ok (.iload_n 1, 1) := by decide +kernel
theorem k218_69 : decode (mB 218) 69 = .ok (.invokevirtual 72, 3) ∧ tVn (mO 218) 72 = some 1 ∧ tV (mO 218) 72 11 = some 158 := by decide +kernel
theorem k218_72 : decode (mB 218) 72 = .ok (.goto 8, 3) := by decide +kernel
theorem k218_75 : decode (mB 218) 75 = .ok (.aload_n 0, 1) := by decide +kernel
theorem k218_76 : decode (mB 218) 76 = .ok (.iconst 3, 1) := by decide +kernel
theorem k218_77 : decode (mB 218) 77 = .ok (.invokevirtual 68, 3) ∧ tVn (mO 218) 68 = some 1 ∧ tV (mO 218) 68 11 = some 157 := by decide +kernel
theorem k218_80 : decode (mB 218) 80 = .ok (.ireturn, 1) ∧ mR 218 = (some .int) := by decide +kernel
-- 219: ChairPastModel.begins:(I)V, locals 2
theorem l219 : mL 219 = 2 := by decide +kernel
theorem k219_0 : decode (mB 219) 0 = .ok (.aload_n 0, 1) := by decide +kernel
theorem k219_1 : decode (mB 219) 1 = .ok (.getfield 212, 3) ∧ tF (mO 219) 212 = some (11, 23, 0, 0) := by decide +kernel
theorem k219_4 : decode (mB 219) 4 = .ok (.bipush 16, 2) := by decide +kernel
theorem k219_6 : decode (mB 219) 6 = .ok (.if_icmp .ge 23, 3) := by decide +kernel
theorem k219_9 : decode (mB 219) 9 = .ok (.aload_n 0, 1) := by decide +kernel
theorem k219_10 : decode (mB 219) 10 = .ok (.getfield 50, 3) ∧ tF (mO 219) 50 = some (11, 22, 1, 1) := by decide +kernel
theorem k219_13 : decode (mB 219) 13 = .ok (.aload_n 0, 1) := by decide +kernel
theorem k219_14 : decode (mB 219) 14 = .ok (.getfield 212, 3) ∧ tF (mO 219) 212 = some (11, 23, 0, 0) := by decide +kernel
theorem k219_17 : decode (mB 219) 17 = .ok (.iload_n 1, 1) := by decide +kernel
theorem k219_18 : decode (mB 219) 18 = .ok (.iastore, 1) := by decide +kernel
theorem k219_19 : decode (mB 219) 19 = .ok (.aload_n 0, 1) := by decide +kernel
theorem k219_20 : decode (mB 219) 20 = .ok (.dup, 1) := by decide +kernel
theorem k219_21 : decode (mB 219) 21 = .ok (.getfield 212, 3) ∧ tF (mO 219) 212 = some (11, 23, 0, 0) := by decide +kernel
theorem k219_24 : decode (mB 219) 24 = .ok (.iconst 1, 1) := by decide +kernel
theorem k219_25 : decode (mB 219) 25 = .ok (.iadd, 1) := by decide +kernel
theorem k219_26 : decode (mB 219) 26 = .ok (.putfield 212, 3) ∧ tF (mO 219) 212 = some (11, 23, 0, 0) := by decide +kernel
theorem k219_29 : decode (mB 219) 29 = .ok (.return_, 1) ∧ mR 219 = none := by decide +kernel
-- 220: ChairPastModel.plainMark:(I)I, locals 4
theorem l220 : mL 220 = 4 := by decide +kernel
theorem k220_0 : decode (mB 220) 0 = .ok (.aload_n 0, 1) := by decide +kernel
theorem k220_1 : decode (mB 220) 1 = .ok (.iload_n 1, 1) := by decide +kernel
theorem k220_2 : decode (mB 220) 2 = .ok (.invokevirtual 209, 3) ∧ tVn (mO 220) 209 = some 1 ∧ tV (mO 220) 209 11 = some 216 := by decide +kernel
theorem k220_5 : decode (mB 220) 5 = .ok (.istore_n 2, 1) := by decide +kernel
theorem k220_6 : decode (mB 220) 6 = .ok (.iload_n 2, 1) := by decide +kernel
theorem k220_7 : decode (mB 220) 7 = .ok (.iconst 1, 1) := by decide +kernel
theorem k220_8 : decode (mB 220) 8 = .ok (.if_icmp .eq 19, 3) := by decide +kernel
theorem k220_11 : decode (mB 220) 11 = .ok (.aload_n 0, 1) := by decide +kernel
theorem k220_12 : decode (mB 220) 12 = .ok (.iload_n 2, 1) := by decide +kernel
theorem k220_13 : decode (mB 220) 13 = .ok (.iconst 2, 1) := by decide +kernel
theorem k220_14 : decode (mB 220) 14 = .ok (.if_icmp .ne 8, 3) := by decide +kernel
theorem k220_17 : decode (mB 220) 17 = .ok (.bipush 24, 2) := by decide +kernel
theorem k220_19 : decode (mB 220) 19 = .ok (.goto 5, 3) := by decide +kernel
theorem k220_22 : decode (mB 220) 22 = .ok (.bipush 22, 2) := by decide +kernel
theorem k220_24 : decode (mB 220) 24 = .ok (.invokevirtual 215, 3) ∧ tVn (mO 220) 215 = some 1 ∧ tV (mO 220) 215 11 = some 219 := by decide +kernel
theorem k220_27 : decode (mB 220) 27 = .ok (.aload_n 0, 1) := by decide +kernel
theorem k220_28 : decode (mB 220) 28 = .ok (.bipush 21, 2) := by decide +kernel
theorem k220_30 : decode (mB 220) 30 = .ok (.invokevirtual 215, 3) ∧ tVn (mO 220) 215 = some 1 ∧ tV (mO 220) 215 11 = some 219 := by decide +kernel
theorem k220_33 : decode (mB 220) 33 = .ok (.aload_n 0, 1) := by decide +kernel
theorem k220_34 : decode (mB 220) 34 = .ok (.bipush 20, 2) := by decide +kernel
theorem k220_36 : decode (mB 220) 36 = .ok (.invokevirtual 215, 3) ∧ tVn (mO 220) 215 = some 1 ∧ tV (mO 220) 215 11 = some 219 := by decide +kernel
theorem k220_39 : decode (mB 220) 39 = .ok (.aload_n 0, 1) := by decide +kernel
theorem k220_40 : decode (mB 220) 40 = .ok (.getfield 25, 3) ∧ tF (mO 220) 25 = some (11, 13, 1, 1) := by decide +kernel
theorem k220_43 : decode (mB 220) 43 = .ok (.iconst 3, 1) := by decide +kernel
theorem k220_44 : decode (mB 220) 44 = .ok (.iconst 5, 1) := by decide +kernel
theorem k220_45 : decode (mB 220) 45 = .ok (.iload_n 1, 1) := by decide +kernel
theorem k220_46 : decode (mB 220) 46 = .ok (.imul, 1) := by decide +kernel
theorem k220_47 : decode (mB 220) 47 = .ok (.iadd, 1) := by decide +kernel
theorem k220_48 : decode (mB 220) 48 = .ok (.iconst 1, 1) := by decide +kernel
theorem k220_49 : decode (mB 220) 49 = .ok (.iadd, 1) := by decide +kernel
theorem k220_50 : decode (mB 220) 50 = .ok (.iaload, 1) := by decide +kernel
theorem k220_51 : decode (mB 220) 51 = .ok (.aload_n 0, 1) := by decide +kernel
theorem k220_52 : decode (mB 220) 52 = .ok (.getfield 25, 3) ∧ tF (mO 220) 25 = some (11, 13, 1, 1) := by decide +kernel
theorem k220_55 : decode (mB 220) 55 = .ok (.iconst 3, 1) := by decide +kernel
theorem k220_56 : decode (mB 220) 56 = .ok (.iconst 5, 1) := by decide +kernel
theorem k220_57 : decode (mB 220) 57 = .ok (.iload_n 1, 1) := by decide +kernel
theorem k220_58 : decode (mB 220) 58 = .ok (.imul, 1) := by decide +kernel
theorem k220_59 : decode (mB 220) 59 = .ok (.iadd, 1) := by decide +kernel
theorem k220_60 : decode (mB 220) 60 = .ok (.iconst 2, 1) := by decide +kernel
theorem k220_61 : decode (mB 220) 61 = .ok (.iadd, 1) := by decide +kernel
theorem k220_62 : decode (mB 220) 62 = .ok (.iaload, 1) := by decide +kernel
theorem k220_63 : decode (mB 220) 63 = .ok (.iadd, 1) := by decide +kernel
theorem k220_64 : decode (mB 220) 64 = .ok (.istore_n 3, 1) := by decide +kernel
theorem k220_65 : decode (mB 220) 65 = .ok (.iload_n 2, 1) := by decide +kernel
theorem k220_66 : decode (mB 220) 66 = .ok (.iconst 2, 1) := by decide +kernel
theorem k220_67 : decode (mB 220) 67 = .ok (.if_icmp .ne 9, 3) := by decide +kernel
theorem k220_70 : decode (mB 220) 70 = .ok (.iconst 2, 1) := by decide +kernel
theorem k220_71 : decode (mB 220) 71 = .ok (.iload_n 3, 1) := by decide +kernel
theorem k220_72 : decode (mB 220) 72 = .ok (.imul, 1) := by decide +kernel
theorem k220_73 : decode (mB 220) 73 = .ok (.goto 17, 3) := by decide +kernel
theorem k220_76 : decode (mB 220) 76 = .ok (.iload_n 2, 1) := by decide +kernel
theorem k220_77 : decode (mB 220) 77 = .ok (.iconst 3, 1) := by decide +kernel
theorem k220_78 : decode (mB 220) 78 = .ok (.if_icmp .ne 11, 3) := by decide +kernel
theorem k220_81 : decode (mB 220) 81 = .ok (.iload_n 3, 1) := by decide +kernel
theorem k220_82 : decode (mB 220) 82 = .ok (.sipush 1000, 3) := by decide +kernel
theorem k220_85 : decode (mB 220) 85 = .ok (.isub, 1) := by decide +kernel
theorem k220_86 : decode (mB 220) 86 = .ok (.goto 4, 3) := by decide +kernel
theorem k220_89 : decode (mB 220) 89 = .ok (.iload_n 3, 1) := by decide +kernel
theorem k220_90 : decode (mB 220) 90 = .ok (.ireturn, 1) ∧ mR 220 = (some .int) := by decide +kernel
-- 221: ChairPastModel.throneSize:(I)I, locals 4
theorem l221 : mL 221 = 4 := by decide +kernel
theorem k221_0 : decode (mB 221) 0 = .ok (.aload_n 0, 1) := by decide +kernel
theorem k221_1 : decode (mB 221) 1 = .ok (.iload_n 1, 1) := by decide +kernel
theorem k221_2 : decode (mB 221) 2 = .ok (.invokevirtual 209, 3) ∧ tVn (mO 221) 209 = some 1 ∧ tV (mO 221) 209 11 = some 216 := by decide +kernel
theorem k221_5 : decode (mB 221) 5 = .ok (.iconst 5, 1) := by decide +kernel
theorem k221_6 : decode (mB 221) 6 = .ok (.if_icmp .ne 7, 3) := by decide +kernel
theorem k221_9 : decode (mB 221) 9 = .ok (.iconst 1, 1) := by decide +kernel
theorem k221_10 : decode (mB 221) 10 = .ok (.goto 4, 3) := by decide +kernel
theorem k221_13 : decode (mB 221) 13 = .ok (.iconst 0, 1) := by decide +kernel
theorem k221_14 : decode (mB 221) 14 = .ok (.istore_n 2, 1) := by decide +kernel
theorem k221_15 : decode (mB 221) 15 = .ok (.iload_n 2, 1) := by decide +kernel
theorem k221_16 : decode (mB 221) 16 = .ok (.ifCond .eq 9, 3) := by decide +kernel
theorem k221_19 : decode (mB 221) 19 = .ok (.aload_n 0, 1) := by decide +kernel
theorem k221_20 : decode (mB 221) 20 = .ok (.bipush 14, 2) := by decide +kernel
theorem k221_22 : decode (mB 221) 22 = .ok (.invokevirtual 215, 3) ∧ tVn (mO 221) 215 = some 1 ∧ tV (mO 221) 215 11 = some 219 := by decide +kernel
theorem k221_25 : decode (mB 221) 25 = .ok (.aload_n 0, 1) := by decide +kernel
theorem k221_26 : decode (mB 221) 26 = .ok (.bipush 13, 2) := by decide +kernel
theorem k221_28 : decode (mB 221) 28 = .ok (.invokevirtual 215, 3) ∧ tVn (mO 221) 215 = some 1 ∧ tV (mO 221) 215 11 = some 219 := by decide +kernel
theorem k221_31 : decode (mB 221) 31 = .ok (.aload_n 0, 1) := by decide +kernel
theorem k221_32 : decode (mB 221) 32 = .ok (.bipush 10, 2) := by decide +kernel
theorem k221_34 : decode (mB 221) 34 = .ok (.invokevirtual 215, 3) ∧ tVn (mO 221) 215 = some 1 ∧ tV (mO 221) 215 11 = some 219 := by decide +kernel
theorem k221_37 : decode (mB 221) 37 = .ok (.aload_n 0, 1) := by decide +kernel
theorem k221_38 : decode (mB 221) 38 = .ok (.getfield 25, 3) ∧ tF (mO 221) 25 = some (11, 13, 1, 1) := by decide +kernel
theorem k221_41 : decode (mB 221) 41 = .ok (.iconst 3, 1) := by decide +kernel
theorem k221_42 : decode (mB 221) 42 = .ok (.iconst 5, 1) := by decide +kernel
theorem k221_43 : decode (mB 221) 43 = .ok (.iload_n 1, 1) := by decide +kernel
theorem k221_44 : decode (mB 221) 44 = .ok (.imul, 1) := by decide +kernel
theorem k221_45 : decode (mB 221) 45 = .ok (.iadd, 1) := by decide +kernel
theorem k221_46 : decode (mB 221) 46 = .ok (.iconst 3, 1) := by decide +kernel
theorem k221_47 : decode (mB 221) 47 = .ok (.iadd, 1) := by decide +kernel
theorem k221_48 : decode (mB 221) 48 = .ok (.iaload, 1) := by decide +kernel
theorem k221_49 : decode (mB 221) 49 = .ok (.bipush 100, 2) := by decide +kernel
theorem k221_51 : decode (mB 221) 51 = .ok (.isub, 1) := by decide +kernel
theorem k221_52 : decode (mB 221) 52 = .ok (.istore_n 3, 1) := by decide +kernel
theorem k221_53 : decode (mB 221) 53 = .ok (.iload_n 2, 1) := by decide +kernel
theorem k221_54 : decode (mB 221) 54 = .ok (.ifCond .eq 9, 3) := by decide +kernel
theorem k221_57 : decode (mB 221) 57 = .ok (.iconst 2, 1) := by decide +kernel
theorem k221_58 : decode (mB 221) 58 = .ok (.iload_n 3, 1) := by decide +kernel
theorem k221_59 : decode (mB 221) 59 = .ok (.imul, 1) := by decide +kernel
theorem k221_60 : decode (mB 221) 60 = .ok (.goto 4, 3) := by decide +kernel
theorem k221_63 : decode (mB 221) 63 = .ok (.iload_n 3, 1) := by decide +kernel
theorem k221_64 : decode (mB 221) 64 = .ok (.ireturn, 1) ∧ mR 221 = (some .int) := by decide +kernel
-- 222: ChairPastModel.plainSize:(I)I, locals 4
theorem l222 : mL 222 = 4 := by decide +kernel
theorem k222_0 : decode (mB 222) 0 = .ok (.aload_n 0, 1) := by decide +kernel
theorem k222_1 : decode (mB 222) 1 = .ok (.iload_n 1, 1) := by decide +kernel
theorem k222_2 : decode (mB 222) 2 = .ok (.invokevirtual 209, 3) ∧ tVn (mO 222) 209 = some 1 ∧ tV (mO 222) 209 11 = some 216 := by decide +kernel
theorem k222_5 : decode (mB 222) 5 = .ok (.iconst 2, 1) := by decide +kernel
theorem k222_6 : decode (mB 222) 6 = .ok (.if_icmp .ne 7, 3) := by decide +kernel
theorem k222_9 : decode (mB 222) 9 = .ok (.iconst 1, 1) := by decide +kernel
theorem k222_10 : decode (mB 222) 10 = .ok (.goto 4, 3) := by decide +kernel
theorem k222_13 : decode (mB 222) 13 = .ok (.iconst 0, 1) := by decide +kernel
theorem k222_14 : decode (mB 222) 14 = .ok (.istore_n 2, 1) := by decide +kernel
theorem k222_15 : decode (mB 222) 15 = .ok (.iload_n 2, 1) := by decide +kernel
theorem k222_16 : decode (mB 222) 16 = .ok (.ifCond .eq 9, 3) := by decide +kernel
theorem k222_19 : decode (mB 222) 19 = .ok (.aload_n 0, 1) := by decide +kernel
theorem k222_20 : decode (mB 222) 20 = .ok (.bipush 12, 2) := by decide +kernel
theorem k222_22 : decode (mB 222) 22 = .ok (.invokevirtual 215, 3) ∧ tVn (mO 222) 215 = some 1 ∧ tV (mO 222) 215 11 = some 219 := by decide +kernel
theorem k222_25 : decode (mB 222) 25 = .ok (.aload_n 0, 1) := by decide +kernel
theorem k222_26 : decode (mB 222) 26 = .ok (.bipush 11, 2) := by decide +kernel
theorem k222_28 : decode (mB 222) 28 = .ok (.invokevirtual 215, 3) ∧ tVn (mO 222) 215 = some 1 ∧ tV (mO 222) 215 11 = some 219 := by decide +kernel
theorem k222_31 : decode (mB 222) 31 = .ok (.aload_n 0, 1) := by decide +kernel
theorem k222_32 : decode (mB 222) 32 = .ok (.bipush 10, 2) := by decide +kernel
theorem k222_34 : decode (mB 222) 34 = .ok (.invokevirtual 215, 3) ∧ tVn (mO 222) 215 = some 1 ∧ tV (mO 222) 215 11 = some 219 := by decide +kernel
theorem k222_37 : decode (mB 222) 37 = .ok (.aload_n 0, 1) := by decide +kernel
theorem k222_38 : decode (mB 222) 38 = .ok (.getfield 25, 3) ∧ tF (mO 222) 25 = some (11, 13, 1, 1) := by decide +kernel
theorem k222_41 : decode (mB 222) 41 = .ok (.iconst 3, 1) := by decide +kernel
theorem k222_42 : decode (mB 222) 42 = .ok (.iconst 5, 1) := by decide +kernel
theorem k222_43 : decode (mB 222) 43 = .ok (.iload_n 1, 1) := by decide +kernel
theorem k222_44 : decode (mB 222) 44 = .ok (.imul, 1) := by decide +kernel
theorem k222_45 : decode (mB 222) 45 = .ok (.iadd, 1) := by decide +kernel
theorem k222_46 : decode (mB 222) 46 = .ok (.iconst 3, 1) := by decide +kernel
theorem k222_47 : decode (mB 222) 47 = .ok (.iadd, 1) := by decide +kernel
theorem k222_48 : decode (mB 222) 48 = .ok (.iaload, 1) := by decide +kernel
theorem k222_49 : decode (mB 222) 49 = .ok (.aload_n 0, 1) := by decide +kernel
theorem k222_50 : decode (mB 222) 50 = .ok (.iload_n 1, 1) := by decide +kernel
theorem k222_51 : decode (mB 222) 51 = .ok (.invokevirtual 219, 3) ∧ tVn (mO 222) 219 = some 1 ∧ tV (mO 222) 219 11 = some 220 := by decide +kernel
theorem k222_54 : decode (mB 222) 54 = .ok (.iadd, 1) := by decide +kernel
theorem k222_55 : decode (mB 222) 55 = .ok (.istore_n 3, 1) := by decide +kernel
theorem k222_56 : decode (mB 222) 56 = .ok (.iload_n 2, 1) := by decide +kernel
theorem k222_57 : decode (mB 222) 57 = .ok (.ifCond .eq 8, 3) := by decide +kernel
theorem k222_60 : decode (mB 222) 60 = .ok (.iload_n 3, 1) := by decide +kernel
theorem k222_61 : decode (mB 222) 61 = .ok (.ineg, 1) := by decide +kernel
theorem k222_62 : decode (mB 222) 62 = .ok (.goto 4, 3) := by decide +kernel
theorem k222_65 : decode (mB 222) 65 = .ok (.iload_n 3, 1) := by decide +kernel
theorem k222_66 : decode (mB 222) 66 = .ok (.ireturn, 1) ∧ mR 222 = (some .int) := by decide +kernel
-- 223: ChairPastModel.throneMark:(I)I, locals 2
theorem l223 : mL 223 = 2 := by decide +kernel
theorem k223_0 : decode (mB 223) 0 = .ok (.aload_n 0, 1) := by decide +kernel
theorem k223_1 : decode (mB 223) 1 = .ok (.bipush 23, 2) := by decide +kernel
theorem k223_3 : decode (mB 223) 3 = .ok (.invokevirtual 215, 3) ∧ tVn (mO 223) 215 = some 1 ∧ tV (mO 223) 215 11 = some 219 := by decide +kernel
theorem k223_6 : decode (mB 223) 6 = .ok (.aload_n 0, 1) := by decide +kernel
theorem k223_7 : decode (mB 223) 7 = .ok (.bipush 20, 2) := by decide +kernel
theorem k223_9 : decode (mB 223) 9 = .ok (.invokevirtual 215, 3) ∧ tVn (mO 223) 215 = some 1 ∧ tV (mO 223) 215 11 = some 219 := by decide +kernel
theorem k223_12 : decode (mB 223) 12 = .ok (.aload_n 0, 1) := by decide +kernel
theorem k223_13 : decode (mB 223) 13 = .ok (.getfield 25, 3) ∧ tF (mO 223) 25 = some (11, 13, 1, 1) := by decide +kernel
theorem k223_16 : decode (mB 223) 16 = .ok (.iconst 3, 1) := by decide +kernel
theorem k223_17 : decode (mB 223) 17 = .ok (.iconst 5, 1) := by decide +kernel
theorem k223_18 : decode (mB 223) 18 = .ok (.iload_n 1, 1) := by decide +kernel
theorem k223_19 : decode (mB 223) 19 = .ok (.imul, 1) := by decide +kernel
theorem k223_20 : decode (mB 223) 20 = .ok (.iadd, 1) := by decide +kernel
theorem k223_21 : decode (mB 223) 21 = .ok (.iconst 1, 1) := by decide +kernel
theorem k223_22 : decode (mB 223) 22 = .ok (.iadd, 1) := by decide +kernel
theorem k223_23 : decode (mB 223) 23 = .ok (.iaload, 1) := by decide +kernel
theorem k223_24 : decode (mB 223) 24 = .ok (.aload_n 0, 1) := by decide +kernel
theorem k223_25 : decode (mB 223) 25 = .ok (.iload_n 1, 1) := by decide +kernel
theorem k223_26 : decode (mB 223) 26 = .ok (.invokevirtual 222, 3) ∧ tVn (mO 223) 222 = some 1 ∧ tV (mO 223) 222 11 = some 221 := by decide +kernel
theorem k223_29 : decode (mB 223) 29 = .ok (.isub, 1) := by decide +kernel
theorem k223_30 : decode (mB 223) 30 = .ok (.ireturn, 1) ∧ mR 223 = (some .int) := by decide +kernel
-- 224: ChairPastModel.ask:(II)I, locals 4
theorem l224 : mL 224 = 4 := by decide +kernel
theorem k224_0 : decode (mB 224) 0 = .ok (.aload_n 0, 1) := by decide +kernel
theorem k224_1 : decode (mB 224) 1 = .ok (.iload_n 1, 1) := by decide +kernel
theorem k224_2 : decode (mB 224) 2 = .ok (.invokevirtual 170, 3) ∧ tVn (mO 224) 170 = some 1 ∧ tV (mO 224) 170 11 = some 182 := by decide +kernel
theorem k224_5 : decode (mB 224) 5 = .ok (.ifCond .eq 12, 3) := by decide +kernel
theorem k224_8 : decode (mB 224) 8 = .ok (.iload_n 2, 1) := by decide +kernel
theorem k224_9 : decode (mB 224) 9 = .ok (.iconst 0, 1) := by decide +kernel
theorem k224_10 : decode (mB 224) 10 = .ok (.iconst 1, 1) := by decide +kernel
theorem k224_11 : decode (mB 224) 11 = .ok (.invokestatic 59, 3) ∧ tM (mO 224) 59 = none ∧ tS (mO 224) 59 = some 155 := by decide +kernel
theorem k224_14 : decode (mB 224) 14 = .ok (.ifCond .ne 6, 3) := by decide +kernel
theorem k224_17 : decode (mB 224) 17 = .ok (.ldc 67, 2) ∧ tK (mO 224) 67 = some (-1000001) := by decide +kernel
theorem k224_19 : decode (mB 224) 19 = .ok (.ireturn, 1) ∧ mR 224 = (some .int) := by decide +kernel
theorem k224_20 : decode (mB 224) 20 = .ok (.aload_n 0, 1) := by decide +kernel
theorem k224_21 : decode (mB 224) 21 = .ok (.iconst 0, 1) := by decide +kernel
theorem k224_22 : decode (mB 224) 22 = .ok (.putfield 212, 3) ∧ tF (mO 224) 212 = some (11, 23, 0, 0) := by decide +kernel
theorem k224_25 : decode (mB 224) 25 = .ok (.aload_n 0, 1) := by decide +kernel
theorem k224_26 : decode (mB 224) 26 = .ok (.iload_n 1, 1) := by decide +kernel
theorem k224_27 : decode (mB 224) 27 = .ok (.invokevirtual 209, 3) ∧ tVn (mO 224) 209 = some 1 ∧ tV (mO 224) 209 11 = some 216 := by decide +kernel
theorem k224_30 : decode (mB 224) 30 = .ok (.iconst 4, 1) := by decide +kernel
theorem k224_31 : decode (mB 224) 31 = .ok (.if_icmp .lt 7, 3) := by decide +kernel
theorem k224_34 : decode (mB 224) 34 = .ok (.iconst 1, 1) := by decide +kernel
theorem k224_35 : decode (mB 224) 35 = .ok (.goto 4, 3) := by decide +kernel
theorem k224_38 : decode (mB 224) 38 = .ok (.iconst 0, 1) := by decide +kernel
theorem k224_39 : decode (mB 224) 39 = .ok (.istore_n 3, 1) := by decide +kernel
theorem k224_40 : decode (mB 224) 40 = .ok (.iload_n 2, 1) := by decide +kernel
theorem k224_41 : decode (mB 224) 41 = .ok (.ifCond .ne 21, 3) := by decide +kernel
theorem k224_44 : decode (mB 224) 44 = .ok (.iload_n 3, 1) := by decide +kernel
theorem k224_45 : decode (mB 224) 45 = .ok (.ifCond .eq 11, 3) := by decide +kernel
theorem k224_48 : decode (mB 224) 48 = .ok (.aload_n 0, 1) := by decide +kernel
theorem k224_49 : decode (mB 224) 49 = .ok (.iload_n 1, 1) := by decide +kernel
theorem k224_50 : decode (mB 224) 50 = .ok (.invokevirtual 222, 3) ∧ tVn (mO 224) 222 = some 1 ∧ tV (mO 224) 222 11 = some 221 := by decide +kernel
theorem k224_53 : decode (mB 224) 53 = .ok (.goto 8, 3) := by decide +kernel
theorem k224_56 : decode (mB 224) 56 = .ok (.aload_n 0, 1) := by decide +kernel
theorem k224_57 : decode (mB 224) 57 = .ok (.iload_n 1, 1) := by decide +kernel
theorem k224_58 : decode (mB 224) 58 = .ok (.invokevirtual 225, 3) ∧ tVn (mO 224) 225 = some 1 ∧ tV (mO 224) 225 11 = some 222 := by decide +kernel
theorem k224_61 : decode (mB 224) 61 = .ok (.ireturn, 1) ∧ mR 224 = (some .int) := by decide +kernel
theorem k224_62 : decode (mB 224) 62 = .ok (.iload_n 3, 1) := by decide +kernel
theorem k224_63 : decode (mB 224) 63 = .ok (.ifCond .eq 11, 3) := by decide +kernel
theorem k224_66 : decode (mB 224) 66 = .ok (.aload_n 0, 1) := by decide +kernel
theorem k224_67 : decode (mB 224) 67 = .ok (.iload_n 1, 1) := by decide +kernel
theorem k224_68 : decode (mB 224) 68 = .ok (.invokevirtual 228, 3) ∧ tVn (mO 224) 228 = some 1 ∧ tV (mO 224) 228 11 = some 223 := by decide +kernel
theorem k224_71 : decode (mB 224) 71 = .ok (.goto 8, 3) := by decide +kernel
theorem k224_74 : decode (mB 224) 74 = .ok (.aload_n 0, 1) := by decide +kernel
theorem k224_75 : decode (mB 224) 75 = .ok (.iload_n 1, 1) := by decide +kernel
theorem k224_76 : decode (mB 224) 76 = .ok (.invokevirtual 219, 3) ∧ tVn (mO 224) 219 = some 1 ∧ tV (mO 224) 219 11 = some 220 := by decide +kernel
theorem k224_79 : decode (mB 224) 79 = .ok (.ireturn, 1) ∧ mR 224 = (some .int) := by decide +kernel
end
section
-- 225: ChairPastModel.trace:(I)I, locals 2
theorem l225 : mL 225 = 2 := by decide +kernel
theorem k225_0 : decode (mB 225) 0 = .ok (.iload_n 1, 1) := by decide +kernel
theorem k225_1 : decode (mB 225) 1 = .ok (.iconst 0, 1) := by decide +kernel
theorem k225_2 : decode (mB 225) 2 = .ok (.aload_n 0, 1) := by decide +kernel
theorem k225_3 : decode (mB 225) 3 = .ok (.getfield 212, 3) ∧ tF (mO 225) 212 = some (11, 23, 0, 0) := by decide +kernel
theorem k225_6 : decode (mB 225) 6 = .ok (.iconst 1, 1) := by decide +kernel
theorem k225_7 : decode (mB 225) 7 = .ok (.isub, 1) := by decide +kernel
theorem k225_8 : decode (mB 225) 8 = .ok (.invokestatic 59, 3) ∧ tM (mO 225) 59 = none ∧ tS (mO 225) 59 = some 155 := by decide +kernel
theorem k225_11 : decode (mB 225) 11 = .ok (.ifCond .eq 12, 3) := by decide +kernel
theorem k225_14 : decode (mB 225) 14 = .ok (.aload_n 0, 1) := by decide +kernel
theorem k225_15 : decode (mB 225) 15 = .ok (.getfield 50, 3) ∧ tF (mO 225) 50 = some (11, 22, 1, 1) := by decide +kernel
theorem k225_18 : decode (mB 225) 18 = .ok (.iload_n 1, 1) := by decide +kernel
theorem k225_19 : decode (mB 225) 19 = .ok (.iaload, 1) := by decide +kernel
theorem k225_20 : decode (mB 225) 20 = .ok (.goto 5, 3) := by decide +kernel
theorem k225_23 : decode (mB 225) 23 = .ok (.ldc 53, 2) ∧ tK (mO 225) 53 = some (-1000000) := by decide +kernel
theorem k225_25 : decode (mB 225) 25 = .ok (.ireturn, 1) ∧ mR 225 = (some .int) := by decide +kernel
-- 226: ChairPastModel.sitting:()I, locals 3
theorem l226 : mL 226 = 3 := by decide +kernel
theorem k226_0 : decode (mB 226) 0 = .ok (.iconst 0, 1) := by decide +kernel
theorem k226_1 : decode (mB 226) 1 = .ok (.istore_n 1, 1) := by decide +kernel
theorem k226_2 : decode (mB 226) 2 = .ok (.iconst 0, 1) := by decide +kernel
theorem k226_3 : decode (mB 226) 3 = .ok (.istore_n 2, 1) := by decide +kernel
theorem k226_4 : decode (mB 226) 4 = .ok (.iload_n 2, 1) := by decide +kernel
theorem k226_5 : decode (mB 226) 5 = .ok (.aload_n 0, 1) := by decide +kernel
theorem k226_6 : decode (mB 226) 6 = .ok (.getfield 25, 3) ∧ tF (mO 226) 25 = some (11, 13, 1, 1) := by decide +kernel
theorem k226_9 : decode (mB 226) 9 = .ok (.iconst 2, 1) := by decide +kernel
theorem k226_10 : decode (mB 226) 10 = .ok (.iaload, 1) := by decide +kernel
theorem k226_11 : decode (mB 226) 11 = .ok (.if_icmp .ge 35, 3) := by decide +kernel
theorem k226_14 : decode (mB 226) 14 = .ok (.iload_n 1, 1) := by decide +kernel
theorem k226_15 : decode (mB 226) 15 = .ok (.aload_n 0, 1) := by decide +kernel
theorem k226_16 : decode (mB 226) 16 = .ok (.getfield 25, 3) ∧ tF (mO 226) 25 = some (11, 13, 1, 1) := by decide +kernel
theorem k226_19 : decode (mB 226) 19 = .ok (.bipush 28, 2) := by decide +kernel
theorem k226_21 : decode (mB 226) 21 = .ok (.iconst 4, 1) := by decide +kernel
theorem k226_22 : decode (mB 226) 22 = .ok (.iload_n 2, 1) := by decide +kernel
theorem k226_23 : decode (mB 226) 23 = .ok (.imul, 1) := by decide +kernel
theorem k226_24 : decode (mB 226) 24 = .ok (.iadd, 1) := by decide +kernel
theorem k226_25 : decode (mB 226) 25 = .ok (.iconst 2, 1) := by decide +kernel
theorem k226_26 : decode (mB 226) 26 = .ok (.iadd, 1) := by decide +kernel
theorem k226_27 : decode (mB 226) 27 = .ok (.iaload, 1) := by decide +kernel
theorem k226_28 : decode (mB 226) 28 = .ok (.ifCond .le 9, 3) := by decide +kernel
theorem k226_31 : decode (mB 226) 31 = .ok (.iconst 1, 1) := by decide +kernel
theorem k226_32 : decode (mB 226) 32 = .ok (.iload_n 2, 1) := by decide +kernel
theorem k226_33 : decode (mB 226) 33 = .ok (.ishl, 1) := by decide +kernel
theorem k226_34 : decode (mB 226) 34 = .ok (.goto 4, 3) := by decide +kernel
theorem k226_37 : decode (mB 226) 37 = .ok (.iconst 0, 1) := by decide +kernel
theorem k226_38 : decode (mB 226) 38 = .ok (.ior, 1) := by decide +kernel
theorem k226_39 : decode (mB 226) 39 = .ok (.istore_n 1, 1) := by decide +kernel
theorem k226_40 : decode (mB 226) 40 = .ok (.iinc 2 1, 3) := by decide +kernel
theorem k226_43 : decode (mB 226) 43 = .ok (.goto (-39), 3) := by decide +kernel
theorem k226_46 : decode (mB 226) 46 = .ok (.iload_n 1, 1) := by decide +kernel
theorem k226_47 : decode (mB 226) 47 = .ok (.ireturn, 1) ∧ mR 226 = (some .int) := by decide +kernel
-- 227: ChairPastModel.takenChairs:()I, locals 3
theorem l227 : mL 227 = 3 := by decide +kernel
theorem k227_0 : decode (mB 227) 0 = .ok (.iconst 0, 1) := by decide +kernel
theorem k227_1 : decode (mB 227) 1 = .ok (.istore_n 1, 1) := by decide +kernel
theorem k227_2 : decode (mB 227) 2 = .ok (.iconst 0, 1) := by decide +kernel
theorem k227_3 : decode (mB 227) 3 = .ok (.istore_n 2, 1) := by decide +kernel
theorem k227_4 : decode (mB 227) 4 = .ok (.iload_n 2, 1) := by decide +kernel
theorem k227_5 : decode (mB 227) 5 = .ok (.aload_n 0, 1) := by decide +kernel
theorem k227_6 : decode (mB 227) 6 = .ok (.getfield 25, 3) ∧ tF (mO 227) 25 = some (11, 13, 1, 1) := by decide +kernel
theorem k227_9 : decode (mB 227) 9 = .ok (.iconst 1, 1) := by decide +kernel
theorem k227_10 : decode (mB 227) 10 = .ok (.iaload, 1) := by decide +kernel
theorem k227_11 : decode (mB 227) 11 = .ok (.if_icmp .ge 32, 3) := by decide +kernel
theorem k227_14 : decode (mB 227) 14 = .ok (.iload_n 1, 1) := by decide +kernel
theorem k227_15 : decode (mB 227) 15 = .ok (.aload_n 0, 1) := by decide +kernel
theorem k227_16 : decode (mB 227) 16 = .ok (.getfield 25, 3) ∧ tF (mO 227) 25 = some (11, 13, 1, 1) := by decide +kernel
theorem k227_19 : decode (mB 227) 19 = .ok (.iload_n 2, 1) := by decide +kernel
theorem k227_20 : decode (mB 227) 20 = .ok (.invokestatic 159, 3) ∧ tM (mO 227) 159 = none ∧ tS (mO 227) 159 = some 187 := by decide +kernel
theorem k227_23 : decode (mB 227) 23 = .ok (.ldc 53, 2) ∧ tK (mO 227) 53 = some (-1000000) := by decide +kernel
theorem k227_25 : decode (mB 227) 25 = .ok (.if_icmp .ne 7, 3) := by decide +kernel
theorem k227_28 : decode (mB 227) 28 = .ok (.iconst 0, 1) := by decide +kernel
theorem k227_29 : decode (mB 227) 29 = .ok (.goto 6, 3) := by decide +kernel
theorem k227_32 : decode (mB 227) 32 = .ok (.iconst 1, 1) := by decide +kernel
theorem k227_33 : decode (mB 227) 33 = .ok (.iload_n 2, 1) := by decide +kernel
theorem k227_34 : decode (mB 227) 34 = .ok (.ishl, 1) := by decide +kernel
theorem k227_35 : decode (mB 227) 35 = .ok (.ior, 1) := by decide +kernel
theorem k227_36 : decode (mB 227) 36 = .ok (.istore_n 1, 1) := by decide +kernel
theorem k227_37 : decode (mB 227) 37 = .ok (.iinc 2 1, 3) := by decide +kernel
theorem k227_40 : decode (mB 227) 40 = .ok (.goto (-36), 3) := by decide +kernel
theorem k227_43 : decode (mB 227) 43 = .ok (.iload_n 1, 1) := by decide +kernel
theorem k227_44 : decode (mB 227) 44 = .ok (.ireturn, 1) ∧ mR 227 = (some .int) := by decide +kernel
-- 228: ChairPastModel.count:(I)I, locals 4
theorem l228 : mL 228 = 4 := by decide +kernel
theorem k228_0 : decode (mB 228) 0 = .ok (.iconst 0, 1) := by decide +kernel
theorem k228_1 : decode (mB 228) 1 = .ok (.istore_n 2, 1) := by decide +kernel
theorem k228_2 : decode (mB 228) 2 = .ok (.iload_n 1, 1) := by decide +kernel
theorem k228_3 : decode (mB 228) 3 = .ok (.tableswitch 118 0 7 #[45, 77, 84, 91, 96, 101, 108, 113], 45) := by decide +kernel
theorem k228_48 : decode (mB 228) 48 = .ok (.iconst 0, 1) := by decide +kernel
theorem k228_49 : decode (mB 228) 49 = .ok (.istore_n 3, 1) := by decide +kernel
theorem k228_50 : decode (mB 228) 50 = .ok (.iload_n 3, 1) := by decide +kernel
theorem k228_51 : decode (mB 228) 51 = .ok (.bipush 8, 2) := by decide +kernel
theorem k228_53 : decode (mB 228) 53 = .ok (.if_icmp .ge 25, 3) := by decide +kernel
theorem k228_56 : decode (mB 228) 56 = .ok (.iload_n 2, 1) := by decide +kernel
theorem k228_57 : decode (mB 228) 57 = .ok (.aload_n 0, 1) := by decide +kernel
theorem k228_58 : decode (mB 228) 58 = .ok (.iload_n 3, 1) := by decide +kernel
theorem k228_59 : decode (mB 228) 59 = .ok (.invokevirtual 75, 3) ∧ tVn (mO 228) 75 = some 1 ∧ tV (mO 228) 75 11 = some 161 := by decide +kernel
theorem k228_62 : decode (mB 228) 62 = .ok (.ifCond .eq 7, 3) := by decide +kernel
theorem k228_65 : decode (mB 228) 65 = .ok (.iconst 0, 1) := by decide +kernel
theorem k228_66 : decode (mB 228) 66 = .ok (.goto 4, 3) := by decide +kernel
theorem k228_69 : decode (mB 228) 69 = .ok (.iconst 1, 1) := by decide +kernel
theorem k228_70 : decode (mB 228) 70 = .ok (.iadd, 1) := by decide +kernel
theorem k228_71 : decode (mB 228) 71 = .ok (.istore_n 2, 1) := by decide +kernel
theorem k228_72 : decode (mB 228) 72 = .ok (.iinc 3 1, 3) := by decide +kernel
theorem k228_75 : decode (mB 228) 75 = .ok (.goto (-25), 3) := by decide +kernel
theorem k228_78 : decode (mB 228) 78 = .ok (.iload_n 2, 1) := by decide +kernel
theorem k228_79 : decode (mB 228) 79 = .ok (.ireturn, 1) ∧ mR 228 = (some .int) := by decide +kernel
theorem k228_80 : decode (mB 228) 80 = .ok (.aload_n 0, 1) := by decide +kernel
theorem k228_81 : decode (mB 228) 81 = .ok (.getfield 25, 3) ∧ tF (mO 228) 25 = some (11, 13, 1, 1) := by decide +kernel
theorem k228_84 : decode (mB 228) 84 = .ok (.iconst 1, 1) := by decide +kernel
theorem k228_85 : decode (mB 228) 85 = .ok (.iaload, 1) := by decide +kernel
theorem k228_86 : decode (mB 228) 86 = .ok (.ireturn, 1) ∧ mR 228 = (some .int) := by decide +kernel
theorem k228_87 : decode (mB 228) 87 = .ok (.aload_n 0, 1) := by decide +kernel
theorem k228_88 : decode (mB 228) 88 = .ok (.getfield 25, 3) ∧ tF (mO 228) 25 = some (11, 13, 1, 1) := by decide +kernel
theorem k228_91 : decode (mB 228) 91 = .ok (.iconst 2, 1) := by decide +kernel
theorem k228_92 : decode (mB 228) 92 = .ok (.iaload, 1) := by decide +kernel
theorem k228_93 : decode (mB 228) 93 = .ok (.ireturn, 1) ∧ mR 228 = (some .int) := by decide +kernel
theorem k228_94 : decode (mB 228) 94 = .ok (.aload_n 0, 1) := by decide +kernel
theorem k228_95 : decode (mB 228) 95 = .ok (.invokevirtual 231, 3) ∧ tVn (mO 228) 231 = some 0 ∧ tV (mO 228) 231 11 = some 226 := by decide +kernel
theorem k228_98 : decode (mB 228) 98 = .ok (.ireturn, 1) ∧ mR 228 = (some .int) := by decide +kernel
theorem k228_99 : decode (mB 228) 99 = .ok (.aload_n 0, 1) := by decide +kernel
theorem k228_100 : decode (mB 228) 100 = .ok (.invokevirtual 235, 3) ∧ tVn (mO 228) 235 = some 0 ∧ tV (mO 228) 235 11 = some 227 := by decide +kernel
theorem k228_103 : decode (mB 228) 103 = .ok (.ireturn, 1) ∧ mR 228 = (some .int) := by decide +kernel
theorem k228_104 : decode (mB 228) 104 = .ok (.aload_n 0, 1) := by decide +kernel
theorem k228_105 : decode (mB 228) 105 = .ok (.getfield 25, 3) ∧ tF (mO 228) 25 = some (11, 13, 1, 1) := by decide +kernel
theorem k228_108 : decode (mB 228) 108 = .ok (.iconst 0, 1) := by decide +kernel
theorem k228_109 : decode (mB 228) 109 = .ok (.iaload, 1) := by decide +kernel
theorem k228_110 : decode (mB 228) 110 = .ok (.ireturn, 1) ∧ mR 228 = (some .int) := by decide +kernel
theorem k228_111 : decode (mB 228) 111 = .ok (.aload_n 0, 1) := by decide +kernel
theorem k228_112 : decode (mB 228) 112 = .ok (.getfield 145, 3) ∧ tF (mO 228) 145 = some (11, 17, 0, 0) := by decide +kernel
theorem k228_115 : decode (mB 228) 115 = .ok (.ireturn, 1) ∧ mR 228 = (some .int) := by decide +kernel
theorem k228_116 : decode (mB 228) 116 = .ok (.aload_n 0, 1) := by decide +kernel
theorem k228_117 : decode (mB 228) 117 = .ok (.getfield 85, 3) ∧ tF (mO 228) 85 = some (11, 6, 0, 0) := by decide +kernel
theorem k228_120 : decode (mB 228) 120 = .ok (.ireturn, 1) ∧ mR 228 = (some .int) := by decide +kernel
theorem k228_121 : decode (mB 228) 121 = .ok (.ldc 67, 2) ∧ tK (mO 228) 67 = some (-1000001) := by decide +kernel
theorem k228_123 : decode (mB 228) 123 = .ok (.ireturn, 1) ∧ mR 228 = (some .int) := by decide +kernel
-- 229: ChairPastModel.status:()I, locals 1
theorem l229 : mL 229 = 1 := by decide +kernel
theorem k229_0 : decode (mB 229) 0 = .ok (.aload_n 0, 1) := by decide +kernel
theorem k229_1 : decode (mB 229) 1 = .ok (.getfield 54, 3) ∧ tF (mO 229) 54 = some (11, 4, 0, 0) := by decide +kernel
theorem k229_4 : decode (mB 229) 4 = .ok (.ireturn, 1) ∧ mR 229 = (some .int) := by decide +kernel
end
section
/-! branches with their conditions as they are read; the two stores -/
section EVB
variable {d m pc n sl : Nat} {sh : Nat → Nat × Nat} {I : Nat → Int → Int} {R : Nat → Int → Option Nat} {L : jL} {S : List jV} {Q : Option jV → jS → Prop}

theorem ev_c_eq {off : Int} {t : Nat} {x y : Int} (hd : decode (mB m) pc = .ok (.if_icmp .eq off, 3)) (ht : toPc pc off = some t) (h0 : -2147483648 ≤ x) (h1 : x < 2147483648) (h2 : -2147483648 ≤ y) (h3 : y < 2147483648) (kt : x = y → Ev d m t L S (ST n sl sh I R) Q) (kf : ¬ (x = y) → Ev d m (pc + 3) L S (ST n sl sh I R) Q) : Ev d m pc L (vi y :: vi x :: S) (ST n sl sh I R) Q :=
  ev_icmp hd ht h0 h1 h2 h3 (fun h => kt (by simpa [cmpB] using h)) (fun h => kf (by simpa [cmpB] using h))

theorem ev_z_eq {off : Int} {t : Nat} {x : Int} (hd : decode (mB m) pc = .ok (.ifCond .eq off, 3)) (ht : toPc pc off = some t) (h0 : -2147483648 ≤ x) (h1 : x < 2147483648) (kt : x = 0 → Ev d m t L S (ST n sl sh I R) Q) (kf : ¬ (x = 0) → Ev d m (pc + 3) L S (ST n sl sh I R) Q) : Ev d m pc L (vi x :: S) (ST n sl sh I R) Q :=
  ev_if hd ht h0 h1 (fun h => kt (by simpa [cmpB] using h)) (fun h => kf (by simpa [cmpB] using h))

theorem ev_c_ne {off : Int} {t : Nat} {x y : Int} (hd : decode (mB m) pc = .ok (.if_icmp .ne off, 3)) (ht : toPc pc off = some t) (h0 : -2147483648 ≤ x) (h1 : x < 2147483648) (h2 : -2147483648 ≤ y) (h3 : y < 2147483648) (kt : x ≠ y → Ev d m t L S (ST n sl sh I R) Q) (kf : ¬ (x ≠ y) → Ev d m (pc + 3) L S (ST n sl sh I R) Q) : Ev d m pc L (vi y :: vi x :: S) (ST n sl sh I R) Q :=
  ev_icmp hd ht h0 h1 h2 h3 (fun h => kt (by simpa [cmpB] using h)) (fun h => kf (by simpa [cmpB] using h))

theorem ev_z_ne {off : Int} {t : Nat} {x : Int} (hd : decode (mB m) pc = .ok (.ifCond .ne off, 3)) (ht : toPc pc off = some t) (h0 : -2147483648 ≤ x) (h1 : x < 2147483648) (kt : x ≠ 0 → Ev d m t L S (ST n sl sh I R) Q) (kf : ¬ (x ≠ 0) → Ev d m (pc + 3) L S (ST n sl sh I R) Q) : Ev d m pc L (vi x :: S) (ST n sl sh I R) Q :=
  ev_if hd ht h0 h1 (fun h => kt (by simpa [cmpB] using h)) (fun h => kf (by simpa [cmpB] using h))

theorem ev_c_lt {off : Int} {t : Nat} {x y : Int} (hd : decode (mB m) pc = .ok (.if_icmp .lt off, 3)) (ht : toPc pc off = some t) (h0 : -2147483648 ≤ x) (h1 : x < 2147483648) (h2 : -2147483648 ≤ y) (h3 : y < 2147483648) (kt : x < y → Ev d m t L S (ST n sl sh I R) Q) (kf : ¬ (x < y) → Ev d m (pc + 3) L S (ST n sl sh I R) Q) : Ev d m pc L (vi y :: vi x :: S) (ST n sl sh I R) Q :=
  ev_icmp hd ht h0 h1 h2 h3 (fun h => kt (by simpa [cmpB] using h)) (fun h => kf (by simpa [cmpB] using h))

theorem ev_z_lt {off : Int} {t : Nat} {x : Int} (hd : decode (mB m) pc = .ok (.ifCond .lt off, 3)) (ht : toPc pc off = some t) (h0 : -2147483648 ≤ x) (h1 : x < 2147483648) (kt : x < 0 → Ev d m t L S (ST n sl sh I R) Q) (kf : ¬ (x < 0) → Ev d m (pc + 3) L S (ST n sl sh I R) Q) : Ev d m pc L (vi x :: S) (ST n sl sh I R) Q :=
  ev_if hd ht h0 h1 (fun h => kt (by simpa [cmpB] using h)) (fun h => kf (by simpa [cmpB] using h))

theorem ev_c_ge {off : Int} {t : Nat} {x y : Int} (hd : decode (mB m) pc = .ok (.if_icmp .ge off, 3)) (ht : toPc pc off = some t) (h0 : -2147483648 ≤ x) (h1 : x < 2147483648) (h2 : -2147483648 ≤ y) (h3 : y < 2147483648) (kt : y ≤ x → Ev d m t L S (ST n sl sh I R) Q) (kf : ¬ (y ≤ x) → Ev d m (pc + 3) L S (ST n sl sh I R) Q) : Ev d m pc L (vi y :: vi x :: S) (ST n sl sh I R) Q :=
  ev_icmp hd ht h0 h1 h2 h3 (fun h => kt (by simpa [cmpB] using h)) (fun h => kf (by simpa [cmpB] using h))

theorem ev_z_ge {off : Int} {t : Nat} {x : Int} (hd : decode (mB m) pc = .ok (.ifCond .ge off, 3)) (ht : toPc pc off = some t) (h0 : -2147483648 ≤ x) (h1 : x < 2147483648) (kt : 0 ≤ x → Ev d m t L S (ST n sl sh I R) Q) (kf : ¬ (0 ≤ x) → Ev d m (pc + 3) L S (ST n sl sh I R) Q) : Ev d m pc L (vi x :: S) (ST n sl sh I R) Q :=
  ev_if hd ht h0 h1 (fun h => kt (by simpa [cmpB] using h)) (fun h => kf (by simpa [cmpB] using h))

theorem ev_c_gt {off : Int} {t : Nat} {x y : Int} (hd : decode (mB m) pc = .ok (.if_icmp .gt off, 3)) (ht : toPc pc off = some t) (h0 : -2147483648 ≤ x) (h1 : x < 2147483648) (h2 : -2147483648 ≤ y) (h3 : y < 2147483648) (kt : y < x → Ev d m t L S (ST n sl sh I R) Q) (kf : ¬ (y < x) → Ev d m (pc + 3) L S (ST n sl sh I R) Q) : Ev d m pc L (vi y :: vi x :: S) (ST n sl sh I R) Q :=
  ev_icmp hd ht h0 h1 h2 h3 (fun h => kt (by simpa [cmpB] using h)) (fun h => kf (by simpa [cmpB] using h))

theorem ev_z_gt {off : Int} {t : Nat} {x : Int} (hd : decode (mB m) pc = .ok (.ifCond .gt off, 3)) (ht : toPc pc off = some t) (h0 : -2147483648 ≤ x) (h1 : x < 2147483648) (kt : 0 < x → Ev d m t L S (ST n sl sh I R) Q) (kf : ¬ (0 < x) → Ev d m (pc + 3) L S (ST n sl sh I R) Q) : Ev d m pc L (vi x :: S) (ST n sl sh I R) Q :=
  ev_if hd ht h0 h1 (fun h => kt (by simpa [cmpB] using h)) (fun h => kf (by simpa [cmpB] using h))

theorem ev_c_le {off : Int} {t : Nat} {x y : Int} (hd : decode (mB m) pc = .ok (.if_icmp .le off, 3)) (ht : toPc pc off = some t) (h0 : -2147483648 ≤ x) (h1 : x < 2147483648) (h2 : -2147483648 ≤ y) (h3 : y < 2147483648) (kt : x ≤ y → Ev d m t L S (ST n sl sh I R) Q) (kf : ¬ (x ≤ y) → Ev d m (pc + 3) L S (ST n sl sh I R) Q) : Ev d m pc L (vi y :: vi x :: S) (ST n sl sh I R) Q :=
  ev_icmp hd ht h0 h1 h2 h3 (fun h => kt (by simpa [cmpB] using h)) (fun h => kf (by simpa [cmpB] using h))

theorem ev_z_le {off : Int} {t : Nat} {x : Int} (hd : decode (mB m) pc = .ok (.ifCond .le off, 3)) (ht : toPc pc off = some t) (h0 : -2147483648 ≤ x) (h1 : x < 2147483648) (kt : x ≤ 0 → Ev d m t L S (ST n sl sh I R) Q) (kf : ¬ (x ≤ 0) → Ev d m (pc + 3) L S (ST n sl sh I R) Q) : Ev d m pc L (vi x :: S) (ST n sl sh I R) Q :=
  ev_if hd ht h0 h1 (fun h => kt (by simpa [cmpB] using h)) (fun h => kf (by simpa [cmpB] using h))

theorem ev_areturn {k : Nat} {C : String} (hd : decode (mB m) pc = .ok (.areturn, 1) ∧ mR m = some (.object C)) (kk : Q (some (vr k)) (ST n sl sh I R)) : Ev d m pc L [vr k] (ST n sl sh I R) Q :=
  ev_s4 hd.1 rfl rfl rfl rfl (by rw [hd.2]; rfl) kk
end EVB
/-- all numbers are such as an int holds -/
def Rg (I : Nat → Int → Int) : Prop := ∀ (k : Nat) (j : Int), -2147483648 ≤ I k j ∧ I k j < 2147483648
theorem rg_up {I : Nat → Int → Int} (h : Rg I) {k : Nat} {j z : Int} (h0 : -2147483648 ≤ z) (h1 : z < 2147483648) : Rg (up I k j z) := by
  intro a b
  by_cases hq : a = k ∧ b = j
  · show _ ≤ (if a = k ∧ b = j then z else I a b) ∧ (if a = k ∧ b = j then z else I a b) < _
    rw [if_pos hq]; exact ⟨h0, h1⟩
  · show _ ≤ (if a = k ∧ b = j then z else I a b) ∧ (if a = k ∧ b = j then z else I a b) < _
    rw [if_neg hq]; exact h a b
abbrev SX (I : Nat → Int → Int) (ch : Int → Nat) (kd : Nat → Nat) : jS := ST 125 2312 shX I (rX ch kd)
abbrev SM (I : Nat → Int → Int) : jS := ST 15 1920 shM I rM
theorem upE {I : Nat → Int → Int} {k : Nat} {j z : Int} {a : Nat} {b : Int} (h1 : a = k) (h2 : b = j) : up I k j z a b = z := by simp [up, h1, h2]
theorem upN {I : Nat → Int → Int} {k : Nat} {j z : Int} {a : Nat} {b : Int} (h : a ≠ k ∨ b ≠ j) : up I k j z a b = I a b := by
  unfold up
  rw [if_neg (fun q => h.elim (fun h => h q.1) (fun h => h q.2))]

theorem x_0_0 (ch : Int → Nat) (kd : Nat → Nat) : rX ch kd 0 0 = some 1 := rfl
theorem x_0_1 (ch : Int → Nat) (kd : Nat → Nat) : rX ch kd 0 1 = some 2 := rfl
theorem x_0_2 (ch : Int → Nat) (kd : Nat → Nat) : rX ch kd 0 2 = some 3 := rfl
theorem x_0_3 (ch : Int → Nat) (kd : Nat → Nat) : rX ch kd 0 3 = some 5 := rfl
theorem x_0_4 (ch : Int → Nat) (kd : Nat → Nat) : rX ch kd 0 4 = some 6 := rfl
theorem x_0_5 (ch : Int → Nat) (kd : Nat → Nat) : rX ch kd 0 5 = some 13 := rfl
theorem x_0_6 (ch : Int → Nat) (kd : Nat → Nat) : rX ch kd 0 6 = some 24 := rfl
theorem x_0_7 (ch : Int → Nat) (kd : Nat → Nat) : rX ch kd 0 7 = some 40 := rfl
theorem x_1_0 (ch : Int → Nat) (kd : Nat → Nat) : rX ch kd 1 0 = some 57 := rfl
theorem x_1_1 (ch : Int → Nat) (kd : Nat → Nat) : rX ch kd 1 1 = some 59 := rfl
theorem x_1_2 (ch : Int → Nat) (kd : Nat → Nat) : rX ch kd 1 2 = some 61 := rfl
theorem x_1_3 (ch : Int → Nat) (kd : Nat → Nat) : rX ch kd 1 3 = some 63 := rfl
theorem x_1_4 (ch : Int → Nat) (kd : Nat → Nat) : rX ch kd 1 4 = some 65 := rfl
theorem x_1_5 (ch : Int → Nat) (kd : Nat → Nat) : rX ch kd 1 5 = some 67 := rfl
theorem x_1_6 (ch : Int → Nat) (kd : Nat → Nat) : rX ch kd 1 6 = some 69 := rfl
theorem x_1_7 (ch : Int → Nat) (kd : Nat → Nat) : rX ch kd 1 7 = some 71 := rfl
theorem x_3_0 (ch : Int → Nat) (kd : Nat → Nat) : rX ch kd 3 0 = some 4 := rfl
theorem x_5_0 (ch : Int → Nat) (kd : Nat → Nat) : rX ch kd 5 0 = some 73 := rfl
theorem x_5_1 (ch : Int → Nat) (kd : Nat → Nat) : rX ch kd 5 1 = some 75 := rfl
theorem x_6_0 (ch : Int → Nat) (kd : Nat → Nat) : rX ch kd 6 0 = some 77 := rfl
theorem x_6_1 (ch : Int → Nat) (kd : Nat → Nat) : rX ch kd 6 1 = some 79 := rfl
theorem x_6_2 (ch : Int → Nat) (kd : Nat → Nat) : rX ch kd 6 2 = some 81 := rfl
theorem x_6_3 (ch : Int → Nat) (kd : Nat → Nat) : rX ch kd 6 3 = some 83 := rfl
theorem x_6_4 (ch : Int → Nat) (kd : Nat → Nat) : rX ch kd 6 4 = some 85 := rfl
theorem x_6_5 (ch : Int → Nat) (kd : Nat → Nat) : rX ch kd 6 5 = some 87 := rfl
theorem x_6_6 (ch : Int → Nat) (kd : Nat → Nat) : rX ch kd 6 6 = some 89 := rfl
theorem x_6_7 (ch : Int → Nat) (kd : Nat → Nat) : rX ch kd 6 7 = some 91 := rfl
theorem x_6_8 (ch : Int → Nat) (kd : Nat → Nat) : rX ch kd 6 8 = some 93 := rfl
theorem x_6_9 (ch : Int → Nat) (kd : Nat → Nat) : rX ch kd 6 9 = some 95 := rfl
theorem x_6_10 (ch : Int → Nat) (kd : Nat → Nat) : rX ch kd 6 10 = some 97 := rfl
theorem x_6_11 (ch : Int → Nat) (kd : Nat → Nat) : rX ch kd 6 11 = some 99 := rfl
theorem x_6_12 (ch : Int → Nat) (kd : Nat → Nat) : rX ch kd 6 12 = some 101 := rfl
theorem x_6_13 (ch : Int → Nat) (kd : Nat → Nat) : rX ch kd 6 13 = some 103 := rfl
theorem x_6_14 (ch : Int → Nat) (kd : Nat → Nat) : rX ch kd 6 14 = some 105 := rfl
theorem x_6_15 (ch : Int → Nat) (kd : Nat → Nat) : rX ch kd 6 15 = some 107 := rfl
theorem x_6_16 (ch : Int → Nat) (kd : Nat → Nat) : rX ch kd 6 16 = some 109 := rfl
theorem x_6_17 (ch : Int → Nat) (kd : Nat → Nat) : rX ch kd 6 17 = some 111 := rfl
theorem x_6_18 (ch : Int → Nat) (kd : Nat → Nat) : rX ch kd 6 18 = some 113 := rfl
theorem x_6_19 (ch : Int → Nat) (kd : Nat → Nat) : rX ch kd 6 19 = some 115 := rfl
theorem x_6_20 (ch : Int → Nat) (kd : Nat → Nat) : rX ch kd 6 20 = some 117 := rfl
theorem x_6_21 (ch : Int → Nat) (kd : Nat → Nat) : rX ch kd 6 21 = some 119 := rfl
theorem x_6_22 (ch : Int → Nat) (kd : Nat → Nat) : rX ch kd 6 22 = some 121 := rfl
theorem x_6_23 (ch : Int → Nat) (kd : Nat → Nat) : rX ch kd 6 23 = some 123 := rfl
theorem x_7_0 (ch : Int → Nat) (kd : Nat → Nat) : rX ch kd 7 0 = some 8 := rfl
theorem x_7_1 (ch : Int → Nat) (kd : Nat → Nat) : rX ch kd 7 1 = some 9 := rfl
theorem x_7_2 (ch : Int → Nat) (kd : Nat → Nat) : rX ch kd 7 2 = some 10 := rfl
theorem x_7_3 (ch : Int → Nat) (kd : Nat → Nat) : rX ch kd 7 3 = some 11 := rfl
theorem x_7_4 (ch : Int → Nat) (kd : Nat → Nat) : rX ch kd 7 4 = some 12 := rfl
theorem x_13_0 (ch : Int → Nat) (kd : Nat → Nat) : rX ch kd 13 0 = some 7 := rfl
theorem x_13_1 (ch : Int → Nat) (kd : Nat → Nat) : rX ch kd 13 1 = some 14 := rfl
theorem x_13_2 (ch : Int → Nat) (kd : Nat → Nat) : rX ch kd 13 2 = some 15 := rfl
theorem x_13_3 (ch : Int → Nat) (kd : Nat → Nat) : rX ch kd 13 3 = some 16 := rfl
theorem x_13_4 (ch : Int → Nat) (kd : Nat → Nat) : rX ch kd 13 4 = some 17 := rfl
theorem x_13_5 (ch : Int → Nat) (kd : Nat → Nat) : rX ch kd 13 5 = some 18 := rfl
theorem x_24_0 (ch : Int → Nat) (kd : Nat → Nat) : rX ch kd 24 0 = some 25 := rfl
theorem x_24_1 (ch : Int → Nat) (kd : Nat → Nat) : rX ch kd 24 1 = some 27 := rfl
theorem x_24_2 (ch : Int → Nat) (kd : Nat → Nat) : rX ch kd 24 2 = some 29 := rfl
theorem x_25_0 (ch : Int → Nat) (kd : Nat → Nat) : rX ch kd 25 0 = some 26 := rfl
theorem x_27_0 (ch : Int → Nat) (kd : Nat → Nat) : rX ch kd 27 0 = some 28 := rfl
theorem x_29_0 (ch : Int → Nat) (kd : Nat → Nat) : rX ch kd 29 0 = some 7 := rfl
theorem x_29_1 (ch : Int → Nat) (kd : Nat → Nat) : rX ch kd 29 1 = some 30 := rfl
theorem x_29_2 (ch : Int → Nat) (kd : Nat → Nat) : rX ch kd 29 2 = some 31 := rfl
theorem x_29_3 (ch : Int → Nat) (kd : Nat → Nat) : rX ch kd 29 3 = some 32 := rfl
theorem x_29_4 (ch : Int → Nat) (kd : Nat → Nat) : rX ch kd 29 4 = some 33 := rfl
theorem x_29_5 (ch : Int → Nat) (kd : Nat → Nat) : rX ch kd 29 5 = some 34 := rfl
theorem x_30_0 (ch : Int → Nat) (kd : Nat → Nat) : rX ch kd 30 0 = some 35 := rfl
theorem x_30_1 (ch : Int → Nat) (kd : Nat → Nat) : rX ch kd 30 1 = some 36 := rfl
theorem x_30_2 (ch : Int → Nat) (kd : Nat → Nat) : rX ch kd 30 2 = some 37 := rfl
theorem x_30_3 (ch : Int → Nat) (kd : Nat → Nat) : rX ch kd 30 3 = some 38 := rfl
theorem x_30_4 (ch : Int → Nat) (kd : Nat → Nat) : rX ch kd 30 4 = some 39 := rfl
theorem x_40_0 (ch : Int → Nat) (kd : Nat → Nat) : rX ch kd 40 0 = some 13 := rfl
theorem x_40_1 (ch : Int → Nat) (kd : Nat → Nat) : rX ch kd 40 1 = some 45 := rfl
theorem x_40_2 (ch : Int → Nat) (kd : Nat → Nat) : rX ch kd 40 2 = some 7 := rfl
theorem x_40_3 (ch : Int → Nat) (kd : Nat → Nat) : rX ch kd 40 3 = some 56 := rfl
theorem x_40_4 (ch : Int → Nat) (kd : Nat → Nat) : rX ch kd 40 4 = some 41 := rfl
theorem x_40_5 (ch : Int → Nat) (kd : Nat → Nat) : rX ch kd 40 5 = some 43 := rfl
theorem x_40_6 (ch : Int → Nat) (kd : Nat → Nat) : rX ch kd 40 6 = some 44 := rfl
theorem x_41_0 (ch : Int → Nat) (kd : Nat → Nat) : rX ch kd 41 0 = some 42 := rfl
theorem x_45_0 (ch : Int → Nat) (kd : Nat → Nat) : rX ch kd 45 0 = some 7 := rfl
theorem x_45_1 (ch : Int → Nat) (kd : Nat → Nat) : rX ch kd 45 1 = some 46 := rfl
theorem x_45_2 (ch : Int → Nat) (kd : Nat → Nat) : rX ch kd 45 2 = some 47 := rfl
theorem x_45_3 (ch : Int → Nat) (kd : Nat → Nat) : rX ch kd 45 3 = some 48 := rfl
theorem x_45_4 (ch : Int → Nat) (kd : Nat → Nat) : rX ch kd 45 4 = some 49 := rfl
theorem x_45_5 (ch : Int → Nat) (kd : Nat → Nat) : rX ch kd 45 5 = some 50 := rfl
theorem x_46_0 (ch : Int → Nat) (kd : Nat → Nat) : rX ch kd 46 0 = some 51 := rfl
theorem x_46_1 (ch : Int → Nat) (kd : Nat → Nat) : rX ch kd 46 1 = some 52 := rfl
theorem x_46_2 (ch : Int → Nat) (kd : Nat → Nat) : rX ch kd 46 2 = some 53 := rfl
theorem x_46_3 (ch : Int → Nat) (kd : Nat → Nat) : rX ch kd 46 3 = some 54 := rfl
theorem x_46_4 (ch : Int → Nat) (kd : Nat → Nat) : rX ch kd 46 4 = some 55 := rfl
theorem x_57_0 (ch : Int → Nat) (kd : Nat → Nat) : rX ch kd 57 0 = some 58 := rfl
theorem x_59_0 (ch : Int → Nat) (kd : Nat → Nat) : rX ch kd 59 0 = some 60 := rfl
theorem x_61_0 (ch : Int → Nat) (kd : Nat → Nat) : rX ch kd 61 0 = some 62 := rfl
theorem x_63_0 (ch : Int → Nat) (kd : Nat → Nat) : rX ch kd 63 0 = some 64 := rfl
theorem x_65_0 (ch : Int → Nat) (kd : Nat → Nat) : rX ch kd 65 0 = some 66 := rfl
theorem x_67_0 (ch : Int → Nat) (kd : Nat → Nat) : rX ch kd 67 0 = some 68 := rfl
theorem x_69_0 (ch : Int → Nat) (kd : Nat → Nat) : rX ch kd 69 0 = some 70 := rfl
theorem x_71_0 (ch : Int → Nat) (kd : Nat → Nat) : rX ch kd 71 0 = some 72 := rfl
theorem x_73_0 (ch : Int → Nat) (kd : Nat → Nat) : rX ch kd 73 0 = some 74 := rfl
theorem x_75_0 (ch : Int → Nat) (kd : Nat → Nat) : rX ch kd 75 0 = some 76 := rfl
theorem x_77_0 (ch : Int → Nat) (kd : Nat → Nat) : rX ch kd 77 0 = some 78 := rfl
theorem x_79_0 (ch : Int → Nat) (kd : Nat → Nat) : rX ch kd 79 0 = some 80 := rfl
theorem x_81_0 (ch : Int → Nat) (kd : Nat → Nat) : rX ch kd 81 0 = some 82 := rfl
theorem x_83_0 (ch : Int → Nat) (kd : Nat → Nat) : rX ch kd 83 0 = some 84 := rfl
theorem x_85_0 (ch : Int → Nat) (kd : Nat → Nat) : rX ch kd 85 0 = some 86 := rfl
theorem x_87_0 (ch : Int → Nat) (kd : Nat → Nat) : rX ch kd 87 0 = some 88 := rfl
theorem x_89_0 (ch : Int → Nat) (kd : Nat → Nat) : rX ch kd 89 0 = some 90 := rfl
theorem x_91_0 (ch : Int → Nat) (kd : Nat → Nat) : rX ch kd 91 0 = some 92 := rfl
theorem x_93_0 (ch : Int → Nat) (kd : Nat → Nat) : rX ch kd 93 0 = some 94 := rfl
theorem x_95_0 (ch : Int → Nat) (kd : Nat → Nat) : rX ch kd 95 0 = some 96 := rfl
theorem x_97_0 (ch : Int → Nat) (kd : Nat → Nat) : rX ch kd 97 0 = some 98 := rfl
theorem x_99_0 (ch : Int → Nat) (kd : Nat → Nat) : rX ch kd 99 0 = some 100 := rfl
theorem x_101_0 (ch : Int → Nat) (kd : Nat → Nat) : rX ch kd 101 0 = some 102 := rfl
theorem x_103_0 (ch : Int → Nat) (kd : Nat → Nat) : rX ch kd 103 0 = some 104 := rfl
theorem x_105_0 (ch : Int → Nat) (kd : Nat → Nat) : rX ch kd 105 0 = some 106 := rfl
theorem x_107_0 (ch : Int → Nat) (kd : Nat → Nat) : rX ch kd 107 0 = some 108 := rfl
theorem x_109_0 (ch : Int → Nat) (kd : Nat → Nat) : rX ch kd 109 0 = some 110 := rfl
theorem x_111_0 (ch : Int → Nat) (kd : Nat → Nat) : rX ch kd 111 0 = some 112 := rfl
theorem x_113_0 (ch : Int → Nat) (kd : Nat → Nat) : rX ch kd 113 0 = some 114 := rfl
theorem x_115_0 (ch : Int → Nat) (kd : Nat → Nat) : rX ch kd 115 0 = some 116 := rfl
theorem x_117_0 (ch : Int → Nat) (kd : Nat → Nat) : rX ch kd 117 0 = some 118 := rfl
theorem x_119_0 (ch : Int → Nat) (kd : Nat → Nat) : rX ch kd 119 0 = some 120 := rfl
theorem x_121_0 (ch : Int → Nat) (kd : Nat → Nat) : rX ch kd 121 0 = some 122 := rfl
theorem x_123_0 (ch : Int → Nat) (kd : Nat → Nat) : rX ch kd 123 0 = some 124 := rfl
theorem y_0_0 : rM 0 0 = some 1 := rfl
theorem y_0_1 : rM 0 1 = some 2 := rfl
theorem y_0_2 : rM 0 2 = some 3 := rfl
theorem y_0_3 : rM 0 3 = some 4 := rfl
theorem y_0_5 : rM 0 5 = some 5 := rfl
theorem y_0_13 : rM 0 13 = some 6 := rfl
theorem y_0_14 : rM 0 14 = some 7 := rfl
theorem y_0_15 : rM 0 15 = some 8 := rfl
theorem y_0_16 : rM 0 16 = some 9 := rfl
theorem y_0_18 : rM 0 18 = some 10 := rfl
theorem y_0_19 : rM 0 19 = some 11 := rfl
theorem y_0_20 : rM 0 20 = some 12 := rfl
theorem y_0_21 : rM 0 21 = some 13 := rfl
theorem y_0_22 : rM 0 22 = some 14 := rfl
end
section
/-- a line of the class: its cell, its row of so many places -/
def isL2 (k cap : Nat) : Prop := k + 1 < 125 ∧ shX k = (4, 0) ∧ shX (k + 1) = (50, cap) ∧ cap ≤ 100 ∧ ∀ ch kd, rX ch kd k 0 = some (k + 1)

set_option maxHeartbeats 1000000 in
theorem c_clear {d : Nat} {I : Nat → Int → Int} {ch : Int → Nat} {kd : Nat → Nat} {Q : Option jV → jS → Prop} {k cap : Nat} (hl : isL2 k cap) (hQ : Q none (SX (up (up I k 1 0) k 2 0) ch kd)) : Cl d 46 [vr k] (SX I ch kd) Q := by
  have hk := hl.1
  have hcap := hl.2.2.2.1
  refine ⟨by rw [l46]; exact Nat.le_of_ble_eq_true rfl, ?_⟩
  rw [l46]
  show Ev d 46 0 [some (vr k)] [] (SX I ch kd) Q
  refine ev_s1 (L' := [some (vr k)]) (S' := [vr k]) k46_0 rfl rfl ?_
  refine ev_s1 (L' := [some (vr k)]) (S' := [vi 0, vr k]) k46_1 rfl rfl ?_
  refine ev_putI k46_2 (by omega) (hl.2.1) ?_
  show Ev d 46 5 [some (vr k)] [] (SX (up I k 1 0) ch kd) Q
  refine ev_s1 (L' := [some (vr k)]) (S' := [vr k]) k46_5 rfl rfl ?_
  refine ev_s1 (L' := [some (vr k)]) (S' := [vi 0, vr k]) k46_6 rfl rfl ?_
  refine ev_putI k46_7 (by omega) (hl.2.1) ?_
  show Ev d 46 10 [some (vr k)] [] (SX (up (up I k 1 0) k 2 0) ch kd) Q
  refine ev_return k46_10 ?_
  exact hQ

set_option maxHeartbeats 1000000 in
theorem c_rewind {d : Nat} {I : Nat → Int → Int} {ch : Int → Nat} {kd : Nat → Nat} {Q : Option jV → jS → Prop} {k cap : Nat} (hl : isL2 k cap) (hQ : Q none (SX (up I k 2 0) ch kd)) : Cl d 50 [vr k] (SX I ch kd) Q := by
  have hk := hl.1
  have hcap := hl.2.2.2.1
  refine ⟨by rw [l50]; exact Nat.le_of_ble_eq_true rfl, ?_⟩
  rw [l50]
  show Ev d 50 0 [some (vr k)] [] (SX I ch kd) Q
  refine ev_s1 (L' := [some (vr k)]) (S' := [vr k]) k50_0 rfl rfl ?_
  refine ev_s1 (L' := [some (vr k)]) (S' := [vi 0, vr k]) k50_1 rfl rfl ?_
  refine ev_putI k50_2 (by omega) (hl.2.1) ?_
  show Ev d 50 5 [some (vr k)] [] (SX (up I k 2 0) ch kd) Q
  refine ev_return k50_5 ?_
  exact hQ

set_option maxHeartbeats 1000000 in
theorem c_push {d : Nat} {I : Nat → Int → Int} {ch : Int → Nat} {kd : Nat → Nat} {Q : Option jV → jS → Prop} {k cap : Nat} {v : Int} (hl : isL2 k cap) (hI : Rg I) (h0 : 0 ≤ I k 1) (hF : (cap : Int) ≤ I k 1 → Q (some (vi 0)) (SX I ch kd)) (hT : I k 1 < (cap : Int) → Q (some (vi 1)) (SX (up (up I (k + 1) (I k 1) v) k 1 (I k 1 + 1)) ch kd)) : Cl d 47 [vr k, vi v] (SX I ch kd) Q := by
  have hk := hl.1
  have hcap := hl.2.2.2.1
  refine ⟨by rw [l47]; exact Nat.le_of_ble_eq_true rfl, ?_⟩
  rw [l47]
  show Ev d 47 0 [some (vr k), some (vi v)] [] (SX I ch kd) Q
  refine ev_s1 (L' := [some (vr k), some (vi v)]) (S' := [vr k]) k47_0 rfl rfl ?_
  refine ev_getI k47_1 (by omega) (hl.2.1) ?_
  show Ev d 47 4 [some (vr k), some (vi v)] [vi (I k 1)] (SX I ch kd) Q
  have rr1 := hI k 1
  refine ev_s1 (L' := [some (vr k), some (vi v)]) (S' := [vr k, vi (I k 1)]) k47_4 rfl rfl ?_
  refine ev_getR k47_5 (by omega) (hl.2.1) (hl.2.2.2.2 ch kd) ?_
  refine ev_len k47_8 (by omega) (hl.2.2.1) (by decide) (by decide) ?_
  show Ev d 47 9 [some (vr k), some (vi v)] [vi cap, vi (I k 1)] (SX I ch kd) Q
  refine ev_c_lt (t := 14) k47_9 rfl (by omega) (by omega) (by omega) (by omega) (fun h2 => ?_) (fun h2 => ?_)
  · refine ev_s1 (L' := [some (vr k), some (vi v)]) (S' := [vr k]) k47_14 rfl rfl ?_
    refine ev_getR k47_15 (by omega) (hl.2.1) (hl.2.2.2.2 ch kd) ?_
    refine ev_s1 (L' := [some (vr k), some (vi v)]) (S' := [vr k, vr (k + 1)]) k47_18 rfl rfl ?_
    refine ev_getI k47_19 (by omega) (hl.2.1) ?_
    show Ev d 47 22 [some (vr k), some (vi v)] [vi (I k 1), vr (k + 1)] (SX I ch kd) Q
    have rr3 := hI k 1
    refine ev_s1 (L' := [some (vr k), some (vi v)]) (S' := [vi v, vi (I k 1), vr (k + 1)]) k47_22 rfl rfl ?_
    refine ev_iast k47_23 (by omega) (hl.2.2.1) (by omega) (by omega) ?_
    show Ev d 47 24 [some (vr k), some (vi v)] [] (SX (up I (k + 1) (I k 1) v) ch kd) Q
    refine ev_s1 (L' := [some (vr k), some (vi v)]) (S' := [vr k]) k47_24 rfl rfl ?_
    refine ev_s1 (L' := [some (vr k), some (vi v)]) (S' := [vr k, vr k]) k47_25 rfl rfl ?_
    refine ev_getI k47_26 (by omega) (hl.2.1) ?_
    show Ev d 47 29 [some (vr k), some (vi v)] [vi ((up I (k + 1) (I k 1) v) k 1), vr k] (SX (up I (k + 1) (I k 1) v) ch kd) Q
    refine ev_s1 (L' := [some (vr k), some (vi v)]) (S' := [vi 1, vi ((up I (k + 1) (I k 1) v) k 1), vr k]) k47_29 rfl rfl ?_
    refine ev_s1 (L' := [some (vr k), some (vi v)]) (S' := [vi (((up I (k + 1) (I k 1) v) k 1) + 1), vr k]) k47_30 rfl rfl ?_
    refine ev_putI k47_31 (by omega) (hl.2.1) ?_
    show Ev d 47 34 [some (vr k), some (vi v)] [] (SX (up (up I (k + 1) (I k 1) v) k 1 (((up I (k + 1) (I k 1) v) k 1) + 1)) ch kd) Q
    refine ev_s1 (L' := [some (vr k), some (vi v)]) (S' := [vi 1]) k47_34 rfl rfl ?_
    refine ev_zreturn k47_35 (by decide) ?_
    rw [show up I (k + 1) (I k 1) v k 1 = I k 1 from upN (Or.inl (by omega))]
    exact hT (by omega)
  · refine ev_s1 (L' := [some (vr k), some (vi v)]) (S' := [vi 0]) k47_12 rfl rfl ?_
    refine ev_zreturn k47_13 (by decide) ?_
    exact hF (by omega)

set_option maxHeartbeats 1000000 in
theorem c_numberAt {d : Nat} {I : Nat → Int → Int} {ch : Int → Nat} {kd : Nat → Nat} {Q : Option jV → jS → Prop} {k cap : Nat} {i : Int} (hl : isL2 k cap) (hI : Rg I) (hi0 : -2147483648 ≤ i) (hi1 : i < 2147483648) (h1 : I k 1 ≤ (cap : Int)) (hT : 0 ≤ i → i < I k 1 → Q (some (vi (I (k + 1) i))) (SX I ch kd)) (hF : ¬ (0 ≤ i ∧ i < I k 1) → Q (some (vi (-1000000))) (SX I ch kd)) : Cl d 48 [vr k, vi i] (SX I ch kd) Q := by
  have hk := hl.1
  have hcap := hl.2.2.2.1
  refine ⟨by rw [l48]; exact Nat.le_of_ble_eq_true rfl, ?_⟩
  rw [l48]
  show Ev d 48 0 [some (vr k), some (vi i)] [] (SX I ch kd) Q
  refine ev_s1 (L' := [some (vr k), some (vi i)]) (S' := [vi i]) k48_0 rfl rfl ?_
  refine ev_z_lt (t := 21) k48_1 rfl (by omega) (by omega) (fun h1 => ?_) (fun h1 => ?_)
  · refine ev_ldc k48_21 ?_
    refine ev_ireturn k48_23 ?_
    exact hF (by omega)
  · refine ev_s1 (L' := [some (vr k), some (vi i)]) (S' := [vi i]) k48_4 rfl rfl ?_
    refine ev_s1 (L' := [some (vr k), some (vi i)]) (S' := [vr k, vi i]) k48_5 rfl rfl ?_
    refine ev_getI k48_6 (by omega) (hl.2.1) ?_
    show Ev d 48 9 [some (vr k), some (vi i)] [vi (I k 1), vi i] (SX I ch kd) Q
    have rr2 := hI k 1
    refine ev_c_ge (t := 21) k48_9 rfl (by omega) (by omega) (by omega) (by omega) (fun h3 => ?_) (fun h3 => ?_)
    · refine ev_ldc k48_21 ?_
      refine ev_ireturn k48_23 ?_
      exact hF (by omega)
    · refine ev_s1 (L' := [some (vr k), some (vi i)]) (S' := [vr k]) k48_12 rfl rfl ?_
      refine ev_getR k48_13 (by omega) (hl.2.1) (hl.2.2.2.2 ch kd) ?_
      refine ev_s1 (L' := [some (vr k), some (vi i)]) (S' := [vi i, vr (k + 1)]) k48_16 rfl rfl ?_
      refine ev_iald k48_17 (by omega) (hl.2.2.1) (by omega) (by omega) ?_
      have rr4 := hI (k + 1) i
      refine ev_goto (t := 23) k48_18 rfl ?_
      refine ev_ireturn k48_23 ?_
      exact hT (by omega) (by omega)

set_option maxHeartbeats 1000000 in
theorem c_holds {d : Nat} {I : Nat → Int → Int} {ch : Int → Nat} {kd : Nat → Nat} {Q : Option jV → jS → Prop} {k cap : Nat} {i n : Int} (hl : isL2 k cap) (hI : Rg I) (hi0 : -2147483648 ≤ i) (hi1 : i < 2147483648) (hn0 : -2147483648 ≤ n) (hn1 : n < 2147483648) (h1 : I k 1 ≤ (cap : Int)) (hT : 0 ≤ i → 0 ≤ n → i + n ≤ I k 1 → Q (some (vi 1)) (SX I ch kd)) (hF : ¬ (0 ≤ i ∧ 0 ≤ n ∧ i + n ≤ I k 1) → Q (some (vi 0)) (SX I ch kd)) : Cl d 49 [vr k, vi i, vi n] (SX I ch kd) Q := by
  have hk := hl.1
  have hcap := hl.2.2.2.1
  refine ⟨by rw [l49]; exact Nat.le_of_ble_eq_true rfl, ?_⟩
  rw [l49]
  show Ev d 49 0 [some (vr k), some (vi i), some (vi n)] [] (SX I ch kd) Q
  refine ev_s1 (L' := [some (vr k), some (vi i), some (vi n)]) (S' := [vi i]) k49_0 rfl rfl ?_
  refine ev_z_lt (t := 30) k49_1 rfl (by omega) (by omega) (fun h1 => ?_) (fun h1 => ?_)
  · refine ev_s1 (L' := [some (vr k), some (vi i), some (vi n)]) (S' := [vi 0]) k49_30 rfl rfl ?_
    refine ev_zreturn k49_31 (by decide) ?_
    exact hF (by omega)
  · refine ev_s1 (L' := [some (vr k), some (vi i), some (vi n)]) (S' := [vi n]) k49_4 rfl rfl ?_
    refine ev_z_lt (t := 30) k49_5 rfl (by omega) (by omega) (fun h2 => ?_) (fun h2 => ?_)
    · refine ev_s1 (L' := [some (vr k), some (vi i), some (vi n)]) (S' := [vi 0]) k49_30 rfl rfl ?_
      refine ev_zreturn k49_31 (by decide) ?_
      exact hF (by omega)
    · refine ev_s1 (L' := [some (vr k), some (vi i), some (vi n)]) (S' := [vi i]) k49_8 rfl rfl ?_
      refine ev_s1 (L' := [some (vr k), some (vi i), some (vi n)]) (S' := [vr k, vi i]) k49_9 rfl rfl ?_
      refine ev_getI k49_10 (by omega) (hl.2.1) ?_
      show Ev d 49 13 [some (vr k), some (vi i), some (vi n)] [vi (I k 1), vi i] (SX I ch kd) Q
      have rr3 := hI k 1
      refine ev_c_gt (t := 30) k49_13 rfl (by omega) (by omega) (by omega) (by omega) (fun h4 => ?_) (fun h4 => ?_)
      · refine ev_s1 (L' := [some (vr k), some (vi i), some (vi n)]) (S' := [vi 0]) k49_30 rfl rfl ?_
        refine ev_zreturn k49_31 (by decide) ?_
        exact hF (by omega)
      · refine ev_s1 (L' := [some (vr k), some (vi i), some (vi n)]) (S' := [vi n]) k49_16 rfl rfl ?_
        refine ev_s1 (L' := [some (vr k), some (vi i), some (vi n)]) (S' := [vr k, vi n]) k49_17 rfl rfl ?_
        refine ev_getI k49_18 (by omega) (hl.2.1) ?_
        show Ev d 49 21 [some (vr k), some (vi i), some (vi n)] [vi (I k 1), vi n] (SX I ch kd) Q
        have rr5 := hI k 1
        refine ev_s1 (L' := [some (vr k), some (vi i), some (vi n)]) (S' := [vi i, vi (I k 1), vi n]) k49_21 rfl rfl ?_
        refine ev_s1 (L' := [some (vr k), some (vi i), some (vi n)]) (S' := [vi ((I k 1) - i), vi n]) k49_22 rfl rfl ?_
        refine ev_c_gt (t := 30) k49_23 rfl (by omega) (by omega) (by omega) (by omega) (fun h6 => ?_) (fun h6 => ?_)
        · refine ev_s1 (L' := [some (vr k), some (vi i), some (vi n)]) (S' := [vi 0]) k49_30 rfl rfl ?_
          refine ev_zreturn k49_31 (by decide) ?_
          exact hF (by omega)
        · refine ev_s1 (L' := [some (vr k), some (vi i), some (vi n)]) (S' := [vi 1]) k49_26 rfl rfl ?_
          refine ev_goto (t := 31) k49_27 rfl ?_
          refine ev_zreturn k49_31 (by decide) ?_
          exact hT (by omega) (by omega) (by omega)

set_option maxHeartbeats 1000000 in
theorem c_next {d : Nat} {I : Nat → Int → Int} {ch : Int → Nat} {kd : Nat → Nat} {Q : Option jV → jS → Prop} {k cap : Nat} (hl : isL2 k cap) (hI : Rg I) (h0 : 0 ≤ I k 2) (h1 : I k 1 ≤ (cap : Int)) (hF : I k 1 ≤ I k 2 → Q (some (vi (-1000000))) (SX I ch kd)) (hT : I k 2 < I k 1 → Q (some (vi (I (k + 1) (I k 2)))) (SX (up I k 2 (I k 2 + 1)) ch kd)) : Cl d 51 [vr k] (SX I ch kd) Q := by
  have hk := hl.1
  have hcap := hl.2.2.2.1
  refine ⟨by rw [l51]; exact Nat.le_of_ble_eq_true rfl, ?_⟩
  rw [l51]
  show Ev d 51 0 [some (vr k)] [] (SX I ch kd) Q
  refine ev_s1 (L' := [some (vr k)]) (S' := [vr k]) k51_0 rfl rfl ?_
  refine ev_getI k51_1 (by omega) (hl.2.1) ?_
  show Ev d 51 4 [some (vr k)] [vi (I k 2)] (SX I ch kd) Q
  have rr1 := hI k 2
  refine ev_s1 (L' := [some (vr k)]) (S' := [vr k, vi (I k 2)]) k51_4 rfl rfl ?_
  refine ev_getI k51_5 (by omega) (hl.2.1) ?_
  show Ev d 51 8 [some (vr k)] [vi (I k 1), vi (I k 2)] (SX I ch kd) Q
  have rr2 := hI k 1
  refine ev_c_lt (t := 14) k51_8 rfl (by omega) (by omega) (by omega) (by omega) (fun h3 => ?_) (fun h3 => ?_)
  · refine ev_s1 (L' := [some (vr k)]) (S' := [vr k]) k51_14 rfl rfl ?_
    refine ev_s1 (L' := [some (vr k)]) (S' := [vr k, vr k]) k51_15 rfl rfl ?_
    refine ev_getI k51_16 (by omega) (hl.2.1) ?_
    show Ev d 51 19 [some (vr k)] [vi (I k 2), vr k] (SX I ch kd) Q
    have rr4 := hI k 2
    refine ev_s1 (L' := [some (vr k)]) (S' := [vi 1, vi (I k 2), vr k]) k51_19 rfl rfl ?_
    refine ev_s1 (L' := [some (vr k)]) (S' := [vi ((I k 2) + 1), vr k]) k51_20 rfl rfl ?_
    refine ev_putI k51_21 (by omega) (hl.2.1) ?_
    show Ev d 51 24 [some (vr k)] [] (SX (up I k 2 ((I k 2) + 1)) ch kd) Q
    have hI5 := rg_up hI (k := k) (j := 2) (z := (I k 2) + 1) (by omega) (by omega)
    generalize hE5 : up I k 2 ((I k 2) + 1) = I5 at hI5 ⊢
    have e2 : I5 k 2 = I k 2 + 1 := by rw [← hE5]; exact upE rfl rfl
    refine ev_s1 (L' := [some (vr k)]) (S' := [vr k]) k51_24 rfl rfl ?_
    refine ev_getR k51_25 (by omega) (hl.2.1) (hl.2.2.2.2 ch kd) ?_
    refine ev_s1 (L' := [some (vr k)]) (S' := [vr k, vr (k + 1)]) k51_28 rfl rfl ?_
    refine ev_getI k51_29 (by omega) (hl.2.1) ?_
    show Ev d 51 32 [some (vr k)] [vi (I5 k 2), vr (k + 1)] (SX I5 ch kd) Q
    have rr6 := hI5 k 2
    refine ev_s1 (L' := [some (vr k)]) (S' := [vi 1, vi (I5 k 2), vr (k + 1)]) k51_32 rfl rfl ?_
    refine ev_s1 (L' := [some (vr k)]) (S' := [vi ((I5 k 2) - 1), vr (k + 1)]) k51_33 rfl rfl ?_
    refine ev_iald k51_34 (by omega) (hl.2.2.1) (by omega) (by omega) ?_
    have rr7 := hI5 (k + 1) ((I5 k 2) - 1)
    refine ev_ireturn k51_35 ?_
    subst hE5
    rw [upE rfl rfl, upN (I := I) (k := k) (j := 2) (z := I k 2 + 1) (a := k + 1) (b := I k 2 + 1 - 1) (Or.inl (by omega)), show I k 2 + 1 - 1 = I k 2 by omega]
    exact hT (by omega)
  · refine ev_ldc k51_11 ?_
    refine ev_ireturn k51_13 ?_
    exact hF (by omega)
end
section
/-! the kinds, a chair -/
theorem shp_c {c : Nat} (h : isCh c = true) : c < 57 ∧ shX c = (1, 0) := by
  have hc : c < 57 := by
    simp only [isCh, Bool.or_eq_true, Bool.and_eq_true, Nat.ble_eq] at h
    omega
  exact ⟨hc, (by decide : ∀ c, c < 57 → isCh c = true → shX c = (1, 0)) c hc h⟩
theorem rX_c {c : Nat} {ch : Int → Nat} {kd : Nat → Nat} (h : isCh c = true) : rX ch kd c 0 = some (kd c) := by
  have h14 : (c == 14) = false := by
    simp only [isCh, Bool.or_eq_true, Bool.and_eq_true, Nat.ble_eq] at h
    simp only [beq_eq_false_iff_ne]
    omega
  unfold rX
  rw [h14, h]
  rfl
def mixF (m s o : Int) : Int := (m * s + o * (16 - s)) / 16
theorem mix_rng {m s o : Int} (h1 : 0 ≤ m) (h2 : m ≤ 9) (h3 : 0 ≤ s) (h4 : s ≤ 16) (h5 : 0 ≤ o) (h6 : o ≤ 9) : 0 ≤ m * s + o * (16 - s) ∧ m * s + o * (16 - s) ≤ 144 := by
  have a1 := Int.mul_nonneg h1 h3
  have a2 := Int.mul_nonneg h5 (show 0 ≤ 16 - s by omega)
  have a3 := Int.mul_le_mul_of_nonneg_right h2 h3
  have a4 := Int.mul_le_mul_of_nonneg_right h6 (show 0 ≤ 16 - s by omega)
  omega
/-- how one of an own manner bears himself on a chair of a kind (8 plain, 9 rocker, 10 barber's, 11 throne, 12 dentist's) -/
def bearF (k : Nat) (m s t o : Int) : Int := if k = 8 then mixF m s o else if k = 9 then (if t % 2 = 0 then mixF m s o else o) else if k = 10 then mixF ((m + 1) % 10) s o else if k = 11 then (if s = 0 then o else m) else (if (if s = 0 then o else m) < 5 then 5 else (if s = 0 then o else m))
def strW (k : Nat) (s : Int) : Int := if k ≤ 10 then s - (s + 3) / 4 else s
def manW (k : Nat) (m : Int) : Int := if k = 10 then (m + 1) % 10 else m
def manA (k : Nat) (m s o w : Int) : Int := if strW k s < w then o else manW k m
def strA (k : Nat) (s w : Int) : Int := if strW k s < w then 16 else strW k s
def satA (t : Int) : Int := if t + 1 < 999 then t + 1 else 999
/-- a chair as the one who sat down leaves it -/
def sitC (I : Nat → Int → Int) (c k : Nat) (o w : Int) : Nat → Int → Int := fun a b => if a = c ∧ b = 1 then manA k (I c 1) (I c 2) o w else if a = c ∧ b = 2 then strA k (I c 2) w else if a = c ∧ b = 4 then satA (I c 4) else I a b
/-- a chair's numbers are as they may be -/
def CR (I : Nat → Int → Int) (c : Nat) : Prop := 0 ≤ I c 1 ∧ I c 1 ≤ 9 ∧ 0 ≤ I c 2 ∧ I c 2 ≤ 16 ∧ 0 ≤ I c 4 ∧ I c 4 ≤ 999

set_option maxHeartbeats 1000000 in
theorem c_blend {d : Nat} {I : Nat → Int → Int} {ch : Int → Nat} {kd : Nat → Nat} {Q : Option jV → jS → Prop} {mn s o : Int} (h1 : 0 ≤ mn) (h2 : mn ≤ 9) (h3 : 0 ≤ s) (h4 : s ≤ 16) (h5 : 0 ≤ o) (h6 : o ≤ 9) (hQ : Q (some (vi (mixF mn s o))) (SX I ch kd)) : Cl d 58 [vi mn, vi s, vi o] (SX I ch kd) Q := by
  have hm := mix_rng h1 h2 h3 h4 h5 h6
  refine ⟨by rw [l58]; exact Nat.le_of_ble_eq_true rfl, ?_⟩
  rw [l58]
  show Ev d 58 0 [some (vi mn), some (vi s), some (vi o)] [] (SX I ch kd) Q
  refine ev_s1 (L' := [some (vi mn), some (vi s), some (vi o)]) (S' := [vi mn]) k58_0 rfl rfl ?_
  refine ev_s1 (L' := [some (vi mn), some (vi s), some (vi o)]) (S' := [vi s, vi mn]) k58_1 rfl rfl ?_
  refine ev_s1 (L' := [some (vi mn), some (vi s), some (vi o)]) (S' := [vi (mn * s)]) k58_2 rfl rfl ?_
  refine ev_s1 (L' := [some (vi mn), some (vi s), some (vi o)]) (S' := [vi o, vi (mn * s)]) k58_3 rfl rfl ?_
  refine ev_s1 (L' := [some (vi mn), some (vi s), some (vi o)]) (S' := [vi 16, vi o, vi (mn * s)]) k58_4 rfl rfl ?_
  refine ev_s1 (L' := [some (vi mn), some (vi s), some (vi o)]) (S' := [vi s, vi 16, vi o, vi (mn * s)]) k58_6 rfl rfl ?_
  refine ev_s1 (L' := [some (vi mn), some (vi s), some (vi o)]) (S' := [vi (16 - s), vi o, vi (mn * s)]) k58_7 rfl rfl ?_
  refine ev_s1 (L' := [some (vi mn), some (vi s), some (vi o)]) (S' := [vi (o * (16 - s)), vi (mn * s)]) k58_8 rfl rfl ?_
  refine ev_s1 (L' := [some (vi mn), some (vi s), some (vi o)]) (S' := [vi ((mn * s) + (o * (16 - s)))]) k58_9 rfl rfl ?_
  refine ev_s1 (L' := [some (vi mn), some (vi s), some (vi o)]) (S' := [vi 16, vi ((mn * s) + (o * (16 - s)))]) k58_10 rfl rfl ?_
  refine ev_idiv k58_12 (by omega) (by omega) (by omega) (by omega) ?_
  refine ev_ireturn k58_13 ?_
  exact hQ

set_option maxHeartbeats 1000000 in
theorem c_after {d : Nat} {I : Nat → Int → Int} {ch : Int → Nat} {kd : Nat → Nat} {Q : Option jV → jS → Prop} {mn : Int} (h1 : 0 ≤ mn) (h2 : mn ≤ 9) (hQ : Q (some (vi ((mn + 1) % 10))) (SX I ch kd)) : Cl d 5 [vi mn] (SX I ch kd) Q := by
  refine ⟨by rw [l5]; exact Nat.le_of_ble_eq_true rfl, ?_⟩
  rw [l5]
  show Ev d 5 0 [some (vi mn)] [] (SX I ch kd) Q
  refine ev_s1 (L' := [some (vi mn)]) (S' := [vi mn]) k5_0 rfl rfl ?_
  refine ev_s1 (L' := [some (vi mn)]) (S' := [vi 1, vi mn]) k5_1 rfl rfl ?_
  refine ev_s1 (L' := [some (vi mn)]) (S' := [vi (mn + 1)]) k5_2 rfl rfl ?_
  refine ev_s1 (L' := [some (vi mn)]) (S' := [vi 10, vi (mn + 1)]) k5_3 rfl rfl ?_
  refine ev_irem k5_5 (by omega) (by omega) (by omega) (by omega) ?_
  refine ev_ireturn k5_6 ?_
  exact hQ

set_option maxHeartbeats 1000000 in
theorem c_boP {d : Nat} {I : Nat → Int → Int} {ch : Int → Nat} {kd : Nat → Nat} {Q : Option jV → jS → Prop} {c t : Nat} {own : Int} (hd : 1 ≤ d) (hc : isCh c = true) (hr : CR I c) (o1 : 0 ≤ own) (o2 : own ≤ 9) (hI : Rg I) (hQ : Q (some (vi (mixF (I c 1) (I c 2) own))) (SX I ch kd)) : Cl d 54 [vr t, vr c, vi own] (SX I ch kd) Q := by
  have hcl := (shp_c hc).1
  obtain ⟨r1, r2, r3, r4, r5, r6⟩ := hr
  refine ⟨by rw [l54]; exact Nat.le_of_ble_eq_true rfl, ?_⟩
  rw [l54]
  show Ev d 54 0 [some (vr t), some (vr c), some (vi own)] [] (SX I ch kd) Q
  refine ev_s1 (L' := [some (vr t), some (vr c), some (vi own)]) (S' := [vr c]) k54_0 rfl rfl ?_
  refine ev_getI k54_1 (by omega) ((shp_c hc).2) ?_
  show Ev d 54 4 [some (vr t), some (vr c), some (vi own)] [vi (I c 1)] (SX I ch kd) Q
  have rr1 := hI c 1
  refine ev_s1 (L' := [some (vr t), some (vr c), some (vi own)]) (S' := [vr c, vi (I c 1)]) k54_4 rfl rfl ?_
  refine ev_getI k54_5 (by omega) ((shp_c hc).2) ?_
  show Ev d 54 8 [some (vr t), some (vr c), some (vi own)] [vi (I c 2), vi (I c 1)] (SX I ch kd) Q
  have rr2 := hI c 2
  refine ev_s1 (L' := [some (vr t), some (vr c), some (vi own)]) (S' := [vi own, vi (I c 2), vi (I c 1)]) k54_8 rfl rfl ?_
  refine ev_static (a := [vi (I c 1), vi (I c 2), vi own]) (S' := []) k54_9 rfl (Nat.le_of_ble_eq_true rfl) (by omega) ?_
  refine c_blend (by omega) (by omega) (by omega) (by omega) (by omega) (by omega) (?_)
  show Ev d 54 12 [some (vr t), some (vr c), some (vi own)] [vi (mixF (I c 1) (I c 2) own)] (SX I ch kd) Q
  refine ev_ireturn k54_12 ?_
  exact hQ

set_option maxHeartbeats 1000000 in
theorem c_boB {d : Nat} {I : Nat → Int → Int} {ch : Int → Nat} {kd : Nat → Nat} {Q : Option jV → jS → Prop} {c t : Nat} {own : Int} (hd : 1 ≤ d) (hc : isCh c = true) (hr : CR I c) (o1 : 0 ≤ own) (o2 : own ≤ 9) (hI : Rg I) (hQ : Q (some (vi (mixF ((I c 1 + 1) % 10) (I c 2) own))) (SX I ch kd)) : Cl d 2 [vr t, vr c, vi own] (SX I ch kd) Q := by
  have hcl := (shp_c hc).1
  obtain ⟨r1, r2, r3, r4, r5, r6⟩ := hr
  refine ⟨by rw [l2]; exact Nat.le_of_ble_eq_true rfl, ?_⟩
  rw [l2]
  show Ev d 2 0 [some (vr t), some (vr c), some (vi own)] [] (SX I ch kd) Q
  refine ev_s1 (L' := [some (vr t), some (vr c), some (vi own)]) (S' := [vr c]) k2_0 rfl rfl ?_
  refine ev_getI k2_1 (by omega) ((shp_c hc).2) ?_
  show Ev d 2 4 [some (vr t), some (vr c), some (vi own)] [vi (I c 1)] (SX I ch kd) Q
  have rr1 := hI c 1
  refine ev_static (a := [vi (I c 1)]) (S' := []) k2_4 rfl (Nat.le_of_ble_eq_true rfl) (by omega) ?_
  refine c_after (by omega) (by omega) (?_)
  show Ev d 2 7 [some (vr t), some (vr c), some (vi own)] [vi (((I c 1) + 1) % 10)] (SX I ch kd) Q
  refine ev_s1 (L' := [some (vr t), some (vr c), some (vi own)]) (S' := [vr c, vi (((I c 1) + 1) % 10)]) k2_7 rfl rfl ?_
  refine ev_getI k2_8 (by omega) ((shp_c hc).2) ?_
  show Ev d 2 11 [some (vr t), some (vr c), some (vi own)] [vi (I c 2), vi (((I c 1) + 1) % 10)] (SX I ch kd) Q
  have rr2 := hI c 2
  refine ev_s1 (L' := [some (vr t), some (vr c), some (vi own)]) (S' := [vi own, vi (I c 2), vi (((I c 1) + 1) % 10)]) k2_11 rfl rfl ?_
  refine ev_static (a := [vi (((I c 1) + 1) % 10), vi (I c 2), vi own]) (S' := []) k2_12 rfl (Nat.le_of_ble_eq_true rfl) (by omega) ?_
  refine c_blend (by omega) (by omega) (by omega) (by omega) (by omega) (by omega) (?_)
  show Ev d 2 15 [some (vr t), some (vr c), some (vi own)] [vi (mixF (((I c 1) + 1) % 10) (I c 2) own)] (SX I ch kd) Q
  refine ev_ireturn k2_15 ?_
  exact hQ

set_option maxHeartbeats 1000000 in
theorem c_boR {d : Nat} {I : Nat → Int → Int} {ch : Int → Nat} {kd : Nat → Nat} {Q : Option jV → jS → Prop} {c t : Nat} {own : Int} (hd : 1 ≤ d) (hc : isCh c = true) (hr : CR I c) (o1 : 0 ≤ own) (o2 : own ≤ 9) (hI : Rg I) (hQ : Q (some (vi (if I c 4 % 2 = 0 then mixF (I c 1) (I c 2) own else own))) (SX I ch kd)) : Cl d 76 [vr t, vr c, vi own] (SX I ch kd) Q := by
  have hcl := (shp_c hc).1
  obtain ⟨r1, r2, r3, r4, r5, r6⟩ := hr
  refine ⟨by rw [l76]; exact Nat.le_of_ble_eq_true rfl, ?_⟩
  rw [l76]
  show Ev d 76 0 [some (vr t), some (vr c), some (vi own)] [] (SX I ch kd) Q
  refine ev_s1 (L' := [some (vr t), some (vr c), some (vi own)]) (S' := [vr c]) k76_0 rfl rfl ?_
  refine ev_getI k76_1 (by omega) ((shp_c hc).2) ?_
  show Ev d 76 4 [some (vr t), some (vr c), some (vi own)] [vi (I c 4)] (SX I ch kd) Q
  have rr1 := hI c 4
  refine ev_s1 (L' := [some (vr t), some (vr c), some (vi own)]) (S' := [vi 2, vi (I c 4)]) k76_4 rfl rfl ?_
  refine ev_irem k76_5 (by omega) (by omega) (by omega) (by omega) ?_
  refine ev_z_ne (t := 24) k76_6 rfl (by omega) (by omega) (fun h2 => ?_) (fun h2 => ?_)
  · refine ev_s1 (L' := [some (vr t), some (vr c), some (vi own)]) (S' := [vi own]) k76_24 rfl rfl ?_
    refine ev_ireturn k76_25 ?_
    rw [if_neg (by omega)] at hQ; exact hQ
  · refine ev_s1 (L' := [some (vr t), some (vr c), some (vi own)]) (S' := [vr c]) k76_9 rfl rfl ?_
    refine ev_getI k76_10 (by omega) ((shp_c hc).2) ?_
    show Ev d 76 13 [some (vr t), some (vr c), some (vi own)] [vi (I c 1)] (SX I ch kd) Q
    have rr3 := hI c 1
    refine ev_s1 (L' := [some (vr t), some (vr c), some (vi own)]) (S' := [vr c, vi (I c 1)]) k76_13 rfl rfl ?_
    refine ev_getI k76_14 (by omega) ((shp_c hc).2) ?_
    show Ev d 76 17 [some (vr t), some (vr c), some (vi own)] [vi (I c 2), vi (I c 1)] (SX I ch kd) Q
    have rr4 := hI c 2
    refine ev_s1 (L' := [some (vr t), some (vr c), some (vi own)]) (S' := [vi own, vi (I c 2), vi (I c 1)]) k76_17 rfl rfl ?_
    refine ev_static (a := [vi (I c 1), vi (I c 2), vi own]) (S' := []) k76_18 rfl (Nat.le_of_ble_eq_true rfl) (by omega) ?_
    refine c_blend (by omega) (by omega) (by omega) (by omega) (by omega) (by omega) (?_)
    show Ev d 76 21 [some (vr t), some (vr c), some (vi own)] [vi (mixF (I c 1) (I c 2) own)] (SX I ch kd) Q
    refine ev_goto (t := 25) k76_21 rfl ?_
    refine ev_ireturn k76_25 ?_
    rw [if_pos (by omega)] at hQ; exact hQ

set_option maxHeartbeats 1000000 in
theorem c_boT {d : Nat} {I : Nat → Int → Int} {ch : Int → Nat} {kd : Nat → Nat} {Q : Option jV → jS → Prop} {c t : Nat} {own : Int} (hd : 1 ≤ d) (hc : isCh c = true) (hr : CR I c) (o1 : 0 ≤ own) (o2 : own ≤ 9) (hI : Rg I) (hQ : Q (some (vi (if I c 2 = 0 then own else I c 1))) (SX I ch kd)) : Cl d 105 [vr t, vr c, vi own] (SX I ch kd) Q := by
  have hcl := (shp_c hc).1
  obtain ⟨r1, r2, r3, r4, r5, r6⟩ := hr
  refine ⟨by rw [l105]; exact Nat.le_of_ble_eq_true rfl, ?_⟩
  rw [l105]
  show Ev d 105 0 [some (vr t), some (vr c), some (vi own)] [] (SX I ch kd) Q
  refine ev_s1 (L' := [some (vr t), some (vr c), some (vi own)]) (S' := [vr c]) k105_0 rfl rfl ?_
  refine ev_getI k105_1 (by omega) ((shp_c hc).2) ?_
  show Ev d 105 4 [some (vr t), some (vr c), some (vi own)] [vi (I c 2)] (SX I ch kd) Q
  have rr1 := hI c 2
  refine ev_z_ne (t := 11) k105_4 rfl (by omega) (by omega) (fun h2 => ?_) (fun h2 => ?_)
  · refine ev_s1 (L' := [some (vr t), some (vr c), some (vi own)]) (S' := [vr c]) k105_11 rfl rfl ?_
    refine ev_getI k105_12 (by omega) ((shp_c hc).2) ?_
    show Ev d 105 15 [some (vr t), some (vr c), some (vi own)] [vi (I c 1)] (SX I ch kd) Q
    have rr3 := hI c 1
    refine ev_ireturn k105_15 ?_
    rw [if_neg (by omega)] at hQ; exact hQ
  · refine ev_s1 (L' := [some (vr t), some (vr c), some (vi own)]) (S' := [vi own]) k105_7 rfl rfl ?_
    refine ev_goto (t := 15) k105_8 rfl ?_
    refine ev_ireturn k105_15 ?_
    rw [if_pos (by omega)] at hQ; exact hQ

set_option maxHeartbeats 1000000 in
theorem c_boD {d : Nat} {I : Nat → Int → Int} {ch : Int → Nat} {kd : Nat → Nat} {Q : Option jV → jS → Prop} {c : Nat} {own : Int} (hd : 2 ≤ d) (hc : isCh c = true) (hr : CR I c) (o1 : 0 ≤ own) (o2 : own ≤ 9) (hI : Rg I) (hQ : Q (some (vi (if (if I c 2 = 0 then own else I c 1) < 5 then 5 else (if I c 2 = 0 then own else I c 1)))) (SX I ch kd)) : Cl d 15 [vr 12, vr c, vi own] (SX I ch kd) Q := by
  have hcl := (shp_c hc).1
  obtain ⟨r1, r2, r3, r4, r5, r6⟩ := hr
  refine ⟨by rw [l15]; exact Nat.le_of_ble_eq_true rfl, ?_⟩
  rw [l15]
  show Ev d 15 0 [some (vr 12), some (vr c), some (vi own)] [] (SX I ch kd) Q
  refine ev_s1 (L' := [some (vr 12), some (vr c), some (vi own)]) (S' := [vr 12]) k15_0 rfl rfl ?_
  refine ev_s1 (L' := [some (vr 12), some (vr c), some (vi own)]) (S' := [vr c, vr 12]) k15_1 rfl rfl ?_
  refine ev_s1 (L' := [some (vr 12), some (vr c), some (vi own)]) (S' := [vi own, vr c, vr 12]) k15_2 rfl rfl ?_
  refine ev_spec (a := [vr c, vi own]) (S' := []) k15_3 rfl (Nat.le_of_ble_eq_true rfl) (by decide) (rfl) (by decide) (by omega) ?_
  refine c_boT (c := c) (t := 12) (own := own) (by omega) hc ⟨r1, r2, r3, r4, r5, r6⟩ o1 o2 hI (?_)
  have rb : 0 ≤ (if I c 2 = 0 then own else I c 1) ∧ (if I c 2 = 0 then own else I c 1) ≤ 9 := by split <;> omega
  generalize hv : (if I c 2 = 0 then own else I c 1) = v at rb hQ ⊢
  show Ev d 15 6 [some (vr 12), some (vr c), some (vi own)] [vi v] (SX I ch kd) Q
  refine ev_s1 (L' := [some (vr 12), some (vr c), some (vi own)]) (S' := [vi 5, vi v]) k15_6 rfl rfl ?_
  refine ev_max k15_7 (inB_iff.mpr (by omega)) (inB_iff.mpr (by omega)) (Nat.le_of_ble_eq_true rfl) ?_
  refine ev_ireturn k15_10 ?_
  exact hQ

set_option maxHeartbeats 1000000 in
theorem c_wearP {d : Nat} {I : Nat → Int → Int} {ch : Int → Nat} {kd : Nat → Nat} {Q : Option jV → jS → Prop} {c t : Nat} (hc : isCh c = true) (hr : CR I c) (hI : Rg I) (hQ : Q none (SX (up I c 2 (I c 2 - (I c 2 + 3) / 4)) ch kd)) : Cl d 55 [vr t, vr c] (SX I ch kd) Q := by
  have hcl := (shp_c hc).1
  obtain ⟨r1, r2, r3, r4, r5, r6⟩ := hr
  refine ⟨by rw [l55]; exact Nat.le_of_ble_eq_true rfl, ?_⟩
  rw [l55]
  show Ev d 55 0 [some (vr t), some (vr c)] [] (SX I ch kd) Q
  refine ev_s1 (L' := [some (vr t), some (vr c)]) (S' := [vr c]) k55_0 rfl rfl ?_
  refine ev_s1 (L' := [some (vr t), some (vr c)]) (S' := [vr c, vr c]) k55_1 rfl rfl ?_
  refine ev_getI k55_2 (by omega) ((shp_c hc).2) ?_
  show Ev d 55 5 [some (vr t), some (vr c)] [vi (I c 2), vr c] (SX I ch kd) Q
  have rr1 := hI c 2
  refine ev_s1 (L' := [some (vr t), some (vr c)]) (S' := [vr c, vi (I c 2), vr c]) k55_5 rfl rfl ?_
  refine ev_getI k55_6 (by omega) ((shp_c hc).2) ?_
  show Ev d 55 9 [some (vr t), some (vr c)] [vi (I c 2), vi (I c 2), vr c] (SX I ch kd) Q
  have rr2 := hI c 2
  refine ev_s1 (L' := [some (vr t), some (vr c)]) (S' := [vi 3, vi (I c 2), vi (I c 2), vr c]) k55_9 rfl rfl ?_
  refine ev_s1 (L' := [some (vr t), some (vr c)]) (S' := [vi ((I c 2) + 3), vi (I c 2), vr c]) k55_10 rfl rfl ?_
  refine ev_s1 (L' := [some (vr t), some (vr c)]) (S' := [vi 4, vi ((I c 2) + 3), vi (I c 2), vr c]) k55_11 rfl rfl ?_
  refine ev_idiv k55_12 (by omega) (by omega) (by omega) (by omega) ?_
  refine ev_s1 (L' := [some (vr t), some (vr c)]) (S' := [vi ((I c 2) - (((I c 2) + 3) / 4)), vr c]) k55_13 rfl rfl ?_
  refine ev_putI k55_14 (by omega) ((shp_c hc).2) ?_
  show Ev d 55 17 [some (vr t), some (vr c)] [] (SX (up I c 2 ((I c 2) - (((I c 2) + 3) / 4))) ch kd) Q
  refine ev_return k55_17 ?_
  exact hQ

set_option maxHeartbeats 1000000 in
theorem c_wearT {d : Nat} {I : Nat → Int → Int} {ch : Int → Nat} {kd : Nat → Nat} {Q : Option jV → jS → Prop} {c t : Nat} (hQ : Q none (SX I ch kd)) : Cl d 106 [vr t, vr c] (SX I ch kd) Q := by
  refine ⟨by rw [l106]; exact Nat.le_of_ble_eq_true rfl, ?_⟩
  rw [l106]
  show Ev d 106 0 [some (vr t), some (vr c)] [] (SX I ch kd) Q
  refine ev_return k106_0 ?_
  exact hQ

set_option maxHeartbeats 1000000 in
theorem c_wearB {d : Nat} {I : Nat → Int → Int} {ch : Int → Nat} {kd : Nat → Nat} {Q : Option jV → jS → Prop} {c : Nat} (hd : 1 ≤ d) (hc : isCh c = true) (hr : CR I c) (hI : Rg I) (hQ : Q none (SX (up (up I c 2 (I c 2 - (I c 2 + 3) / 4)) c 1 ((I c 1 + 1) % 10)) ch kd)) : Cl d 3 [vr 10, vr c] (SX I ch kd) Q := by
  have hcl := (shp_c hc).1
  obtain ⟨r1, r2, r3, r4, r5, r6⟩ := hr
  refine ⟨by rw [l3]; exact Nat.le_of_ble_eq_true rfl, ?_⟩
  rw [l3]
  show Ev d 3 0 [some (vr 10), some (vr c)] [] (SX I ch kd) Q
  refine ev_s1 (L' := [some (vr 10), some (vr c)]) (S' := [vr 10]) k3_0 rfl rfl ?_
  refine ev_s1 (L' := [some (vr 10), some (vr c)]) (S' := [vr c, vr 10]) k3_1 rfl rfl ?_
  refine ev_spec (a := [vr c]) (S' := []) k3_2 rfl (Nat.le_of_ble_eq_true rfl) (by decide) (rfl) (by decide) (by omega) ?_
  refine c_wearP (c := c) (t := 10) hc ⟨r1, r2, r3, r4, r5, r6⟩ hI (?_)
  have hI1 := rg_up hI (k := c) (j := 2) (z := I c 2 - (I c 2 + 3) / 4) (by omega) (by omega)
  have e1 : up I c 2 (I c 2 - (I c 2 + 3) / 4) c 1 = I c 1 := upN (Or.inr (by decide))
  generalize hE1 : up I c 2 (I c 2 - (I c 2 + 3) / 4) = I1 at hI1 e1 ⊢
  show Ev d 3 5 [some (vr 10), some (vr c)] [] (SX I1 ch kd) Q
  refine ev_s1 (L' := [some (vr 10), some (vr c)]) (S' := [vr c]) k3_5 rfl rfl ?_
  refine ev_s1 (L' := [some (vr 10), some (vr c)]) (S' := [vr c, vr c]) k3_6 rfl rfl ?_
  refine ev_getI k3_7 (by omega) ((shp_c hc).2) ?_
  show Ev d 3 10 [some (vr 10), some (vr c)] [vi (I1 c 1), vr c] (SX I1 ch kd) Q
  have rr2 := hI1 c 1
  refine ev_static (a := [vi (I1 c 1)]) (S' := [vr c]) k3_10 rfl (Nat.le_of_ble_eq_true rfl) (by omega) ?_
  refine c_after (by omega) (by omega) (?_)
  show Ev d 3 13 [some (vr 10), some (vr c)] [vi (((I1 c 1) + 1) % 10), vr c] (SX I1 ch kd) Q
  refine ev_putI k3_13 (by omega) ((shp_c hc).2) ?_
  show Ev d 3 16 [some (vr 10), some (vr c)] [] (SX (up I1 c 1 (((I1 c 1) + 1) % 10)) ch kd) Q
  have hI3 := rg_up hI1 (k := c) (j := 1) (z := ((I1 c 1) + 1) % 10) (by omega) (by omega)
  generalize hE3 : up I1 c 1 (((I1 c 1) + 1) % 10) = I3 at hI3 ⊢
  refine ev_return k3_16 ?_
  subst hE3
  subst hE1
  rw [upN (I := I) (k := c) (j := 2) (z := I c 2 - (I c 2 + 3) / 4) (a := c) (b := 1) (Or.inr (by decide))]
  exact hQ

set_option maxHeartbeats 1000000 in
theorem c_num1 {d : Nat} {I : Nat → Int → Int} {ch : Int → Nat} {kd : Nat → Nat} {Q : Option jV → jS → Prop} {t : Nat} (hQ : Q (some (vi 1)) (SX I ch kd)) : Cl d 53 [vr t] (SX I ch kd) Q := by
  refine ⟨by rw [l53]; exact Nat.le_of_ble_eq_true rfl, ?_⟩
  rw [l53]
  show Ev d 53 0 [some (vr t)] [] (SX I ch kd) Q
  refine ev_s1 (L' := [some (vr t)]) (S' := [vi 1]) k53_0 rfl rfl ?_
  refine ev_ireturn k53_1 ?_
  exact hQ

set_option maxHeartbeats 1000000 in
theorem c_num2 {d : Nat} {I : Nat → Int → Int} {ch : Int → Nat} {kd : Nat → Nat} {Q : Option jV → jS → Prop} {t : Nat} (hQ : Q (some (vi 2)) (SX I ch kd)) : Cl d 75 [vr t] (SX I ch kd) Q := by
  refine ⟨by rw [l75]; exact Nat.le_of_ble_eq_true rfl, ?_⟩
  rw [l75]
  show Ev d 75 0 [some (vr t)] [] (SX I ch kd) Q
  refine ev_s1 (L' := [some (vr t)]) (S' := [vi 2]) k75_0 rfl rfl ?_
  refine ev_ireturn k75_1 ?_
  exact hQ

set_option maxHeartbeats 1000000 in
theorem c_num3 {d : Nat} {I : Nat → Int → Int} {ch : Int → Nat} {kd : Nat → Nat} {Q : Option jV → jS → Prop} {t : Nat} (hQ : Q (some (vi 3)) (SX I ch kd)) : Cl d 1 [vr t] (SX I ch kd) Q := by
  refine ⟨by rw [l1]; exact Nat.le_of_ble_eq_true rfl, ?_⟩
  rw [l1]
  show Ev d 1 0 [some (vr t)] [] (SX I ch kd) Q
  refine ev_s1 (L' := [some (vr t)]) (S' := [vi 3]) k1_0 rfl rfl ?_
  refine ev_ireturn k1_1 ?_
  exact hQ

set_option maxHeartbeats 1000000 in
theorem c_num4 {d : Nat} {I : Nat → Int → Int} {ch : Int → Nat} {kd : Nat → Nat} {Q : Option jV → jS → Prop} {t : Nat} (hQ : Q (some (vi 4)) (SX I ch kd)) : Cl d 104 [vr t] (SX I ch kd) Q := by
  refine ⟨by rw [l104]; exact Nat.le_of_ble_eq_true rfl, ?_⟩
  rw [l104]
  show Ev d 104 0 [some (vr t)] [] (SX I ch kd) Q
  refine ev_s1 (L' := [some (vr t)]) (S' := [vi 4]) k104_0 rfl rfl ?_
  refine ev_ireturn k104_1 ?_
  exact hQ

set_option maxHeartbeats 1000000 in
theorem c_num5 {d : Nat} {I : Nat → Int → Int} {ch : Int → Nat} {kd : Nat → Nat} {Q : Option jV → jS → Prop} {t : Nat} (hQ : Q (some (vi 5)) (SX I ch kd)) : Cl d 14 [vr t] (SX I ch kd) Q := by
  refine ⟨by rw [l14]; exact Nat.le_of_ble_eq_true rfl, ?_⟩
  rw [l14]
  show Ev d 14 0 [some (vr t)] [] (SX I ch kd) Q
  refine ev_s1 (L' := [some (vr t)]) (S' := [vi 5]) k14_0 rfl rfl ?_
  refine ev_ireturn k14_1 ?_
  exact hQ

set_option maxHeartbeats 4000000 in
theorem c_bearingOf {d : Nat} {I : Nat → Int → Int} {ch : Int → Nat} {kd : Nat → Nat} {Q : Option jV → jS → Prop} {c : Nat} {own : Int} (hd : 3 ≤ d) (hc : isCh c = true) (hkd : 8 ≤ kd c ∧ kd c ≤ 12) (hr : CR I c) (o1 : 0 ≤ own) (o2 : own ≤ 9) (hI : Rg I) (hQ : Q (some (vi (bearF (kd c) (I c 1) (I c 2) (I c 4) own))) (SX I ch kd)) : Cl d 7 [vr c, vi own] (SX I ch kd) Q := by
  have hcl := (shp_c hc).1
  obtain ⟨r1, r2, r3, r4, r5, r6⟩ := hr
  rcases (show kd c = 8 ∨ kd c = 9 ∨ kd c = 10 ∨ kd c = 11 ∨ kd c = 12 by omega) with hk | hk | hk | hk | hk
  · refine ⟨by rw [l7]; exact Nat.le_of_ble_eq_true rfl, ?_⟩
    rw [l7]
    show Ev d 7 0 [some (vr c), some (vi own)] [] (SX I ch kd) Q
    refine ev_s1 (L' := [some (vr c), some (vi own)]) (S' := [vr c]) k7_0 rfl rfl ?_
    refine ev_getR k7_1 (by omega) ((shp_c hc).2) ((rX_c hc).trans (by rw [hk])) ?_
    refine ev_s1 (L' := [some (vr c), some (vi own)]) (S' := [vr c, vr 8]) k7_4 rfl rfl ?_
    refine ev_s1 (L' := [some (vr c), some (vi own)]) (S' := [vi own, vr c, vr 8]) k7_5 rfl rfl ?_
    refine ev_virt (a := [vr c, vi own]) (S' := []) k7_6_5 rfl (Nat.le_of_ble_eq_true rfl) (by decide) (rfl) (by omega) ?_
    refine c_boP (c := c) (t := 8) (own := own) (by omega) hc ⟨r1, r2, r3, r4, r5, r6⟩ o1 o2 hI (?_)
    have hbv : bearF (kd c) (I c 1) (I c 2) (I c 4) own = mixF (I c 1) (I c 2) own := by unfold bearF; rw [hk]; rfl
    rw [← hbv]
    generalize hv : bearF (kd c) (I c 1) (I c 2) (I c 4) own = bv at hbv hQ ⊢
    show Ev d 7 9 [some (vr c), some (vi own)] [vi bv] (SX I ch kd) Q
    refine ev_ireturn k7_9 ?_
    exact hQ
  · refine ⟨by rw [l7]; exact Nat.le_of_ble_eq_true rfl, ?_⟩
    rw [l7]
    show Ev d 7 0 [some (vr c), some (vi own)] [] (SX I ch kd) Q
    refine ev_s1 (L' := [some (vr c), some (vi own)]) (S' := [vr c]) k7_0 rfl rfl ?_
    refine ev_getR k7_1 (by omega) ((shp_c hc).2) ((rX_c hc).trans (by rw [hk])) ?_
    refine ev_s1 (L' := [some (vr c), some (vi own)]) (S' := [vr c, vr 9]) k7_4 rfl rfl ?_
    refine ev_s1 (L' := [some (vr c), some (vi own)]) (S' := [vi own, vr c, vr 9]) k7_5 rfl rfl ?_
    refine ev_virt (a := [vr c, vi own]) (S' := []) k7_6_7 rfl (Nat.le_of_ble_eq_true rfl) (by decide) (rfl) (by omega) ?_
    refine c_boR (c := c) (t := 9) (own := own) (by omega) hc ⟨r1, r2, r3, r4, r5, r6⟩ o1 o2 hI (?_)
    have hbv : bearF (kd c) (I c 1) (I c 2) (I c 4) own = if I c 4 % 2 = 0 then mixF (I c 1) (I c 2) own else own := by unfold bearF; rw [hk]; rfl
    rw [← hbv]
    generalize hv : bearF (kd c) (I c 1) (I c 2) (I c 4) own = bv at hbv hQ ⊢
    show Ev d 7 9 [some (vr c), some (vi own)] [vi bv] (SX I ch kd) Q
    refine ev_ireturn k7_9 ?_
    exact hQ
  · refine ⟨by rw [l7]; exact Nat.le_of_ble_eq_true rfl, ?_⟩
    rw [l7]
    show Ev d 7 0 [some (vr c), some (vi own)] [] (SX I ch kd) Q
    refine ev_s1 (L' := [some (vr c), some (vi own)]) (S' := [vr c]) k7_0 rfl rfl ?_
    refine ev_getR k7_1 (by omega) ((shp_c hc).2) ((rX_c hc).trans (by rw [hk])) ?_
    refine ev_s1 (L' := [some (vr c), some (vi own)]) (S' := [vr c, vr 10]) k7_4 rfl rfl ?_
    refine ev_s1 (L' := [some (vr c), some (vi own)]) (S' := [vi own, vr c, vr 10]) k7_5 rfl rfl ?_
    refine ev_virt (a := [vr c, vi own]) (S' := []) k7_6_0 rfl (Nat.le_of_ble_eq_true rfl) (by decide) (rfl) (by omega) ?_
    refine c_boB (c := c) (t := 10) (own := own) (by omega) hc ⟨r1, r2, r3, r4, r5, r6⟩ o1 o2 hI (?_)
    have hbv : bearF (kd c) (I c 1) (I c 2) (I c 4) own = mixF ((I c 1 + 1) % 10) (I c 2) own := by unfold bearF; rw [hk]; rfl
    rw [← hbv]
    generalize hv : bearF (kd c) (I c 1) (I c 2) (I c 4) own = bv at hbv hQ ⊢
    show Ev d 7 9 [some (vr c), some (vi own)] [vi bv] (SX I ch kd) Q
    refine ev_ireturn k7_9 ?_
    exact hQ
  · refine ⟨by rw [l7]; exact Nat.le_of_ble_eq_true rfl, ?_⟩
    rw [l7]
    show Ev d 7 0 [some (vr c), some (vi own)] [] (SX I ch kd) Q
    refine ev_s1 (L' := [some (vr c), some (vi own)]) (S' := [vr c]) k7_0 rfl rfl ?_
    refine ev_getR k7_1 (by omega) ((shp_c hc).2) ((rX_c hc).trans (by rw [hk])) ?_
    refine ev_s1 (L' := [some (vr c), some (vi own)]) (S' := [vr c, vr 11]) k7_4 rfl rfl ?_
    refine ev_s1 (L' := [some (vr c), some (vi own)]) (S' := [vi own, vr c, vr 11]) k7_5 rfl rfl ?_
    refine ev_virt (a := [vr c, vi own]) (S' := []) k7_6_9 rfl (Nat.le_of_ble_eq_true rfl) (by decide) (rfl) (by omega) ?_
    refine c_boT (c := c) (t := 11) (own := own) (by omega) hc ⟨r1, r2, r3, r4, r5, r6⟩ o1 o2 hI (?_)
    have hbv : bearF (kd c) (I c 1) (I c 2) (I c 4) own = if I c 2 = 0 then own else I c 1 := by unfold bearF; rw [hk]; rfl
    rw [← hbv]
    generalize hv : bearF (kd c) (I c 1) (I c 2) (I c 4) own = bv at hbv hQ ⊢
    show Ev d 7 9 [some (vr c), some (vi own)] [vi bv] (SX I ch kd) Q
    refine ev_ireturn k7_9 ?_
    exact hQ
  · refine ⟨by rw [l7]; exact Nat.le_of_ble_eq_true rfl, ?_⟩
    rw [l7]
    show Ev d 7 0 [some (vr c), some (vi own)] [] (SX I ch kd) Q
    refine ev_s1 (L' := [some (vr c), some (vi own)]) (S' := [vr c]) k7_0 rfl rfl ?_
    refine ev_getR k7_1 (by omega) ((shp_c hc).2) ((rX_c hc).trans (by rw [hk])) ?_
    refine ev_s1 (L' := [some (vr c), some (vi own)]) (S' := [vr c, vr 12]) k7_4 rfl rfl ?_
    refine ev_s1 (L' := [some (vr c), some (vi own)]) (S' := [vi own, vr c, vr 12]) k7_5 rfl rfl ?_
    refine ev_virt (a := [vr c, vi own]) (S' := []) k7_6_2 rfl (Nat.le_of_ble_eq_true rfl) (by decide) (rfl) (by omega) ?_
    refine c_boD (c := c) (own := own) (by omega) hc ⟨r1, r2, r3, r4, r5, r6⟩ o1 o2 hI (?_)
    have hbv : bearF (kd c) (I c 1) (I c 2) (I c 4) own = if (if I c 2 = 0 then own else I c 1) < 5 then 5 else (if I c 2 = 0 then own else I c 1) := by unfold bearF; rw [hk]; rfl
    rw [← hbv]
    generalize hv : bearF (kd c) (I c 1) (I c 2) (I c 4) own = bv at hbv hQ ⊢
    show Ev d 7 9 [some (vr c), some (vi own)] [vi bv] (SX I ch kd) Q
    refine ev_ireturn k7_9 ?_
    exact hQ
end
